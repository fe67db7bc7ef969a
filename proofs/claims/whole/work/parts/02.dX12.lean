theorem dX12_init_0 : decode cX12_init 0 = .ok (.aload_n 0, 1) := by decide +kernel
theorem dX12_init_1 : decode cX12_init 1 = .ok (.invokespecial 1, 3) := by decide +kernel
theorem dX12_init_4 : decode cX12_init 4 = .ok (.aload_n 0, 1) := by decide +kernel
theorem dX12_init_5 : decode cX12_init 5 = .ok (.bipush 104, 2) := by decide +kernel
theorem dX12_init_7 : decode cX12_init 7 = .ok (.newarray .int, 2) := by decide +kernel
theorem dX12_init_9 : decode cX12_init 9 = .ok (.putfield 9, 3) := by decide +kernel
theorem dX12_init_12 : decode cX12_init 12 = .ok (.aload_n 0, 1) := by decide +kernel
theorem dX12_init_13 : decode cX12_init 13 = .ok (.bipush 104, 2) := by decide +kernel
theorem dX12_init_15 : decode cX12_init 15 = .ok (.newarray .int, 2) := by decide +kernel
theorem dX12_init_17 : decode cX12_init 17 = .ok (.putfield 13, 3) := by decide +kernel
theorem dX12_init_20 : decode cX12_init 20 = .ok (.aload_n 0, 1) := by decide +kernel
theorem dX12_init_21 : decode cX12_init 21 = .ok (.bipush 104, 2) := by decide +kernel
theorem dX12_init_23 : decode cX12_init 23 = .ok (.newarray .int, 2) := by decide +kernel
theorem dX12_init_25 : decode cX12_init 25 = .ok (.putfield 16, 3) := by decide +kernel
theorem dX12_init_28 : decode cX12_init 28 = .ok (.aload_n 0, 1) := by decide +kernel
theorem dX12_init_29 : decode cX12_init 29 = .ok (.bipush 104, 2) := by decide +kernel
theorem dX12_init_31 : decode cX12_init 31 = .ok (.newarray .int, 2) := by decide +kernel
theorem dX12_init_33 : decode cX12_init 33 = .ok (.putfield 19, 3) := by decide +kernel
theorem dX12_init_36 : decode cX12_init 36 = .ok (.aload_n 0, 1) := by decide +kernel
theorem dX12_init_37 : decode cX12_init 37 = .ok (.bipush 8, 2) := by decide +kernel
theorem dX12_init_39 : decode cX12_init 39 = .ok (.newarray .int, 2) := by decide +kernel
theorem dX12_init_41 : decode cX12_init 41 = .ok (.putfield 22, 3) := by decide +kernel
theorem dX12_init_44 : decode cX12_init 44 = .ok (.aload_n 0, 1) := by decide +kernel
theorem dX12_init_45 : decode cX12_init 45 = .ok (.bipush 8, 2) := by decide +kernel
theorem dX12_init_47 : decode cX12_init 47 = .ok (.newarray .int, 2) := by decide +kernel
theorem dX12_init_49 : decode cX12_init 49 = .ok (.putfield 25, 3) := by decide +kernel
theorem dX12_init_52 : decode cX12_init 52 = .ok (.aload_n 0, 1) := by decide +kernel
theorem dX12_init_53 : decode cX12_init 53 = .ok (.sipush 200, 3) := by decide +kernel
theorem dX12_init_56 : decode cX12_init 56 = .ok (.newarray .int, 2) := by decide +kernel
theorem dX12_init_58 : decode cX12_init 58 = .ok (.putfield 28, 3) := by decide +kernel
theorem dX12_init_61 : decode cX12_init 61 = .ok (.aload_n 0, 1) := by decide +kernel
theorem dX12_init_62 : decode cX12_init 62 = .ok (.bipush 112, 2) := by decide +kernel
theorem dX12_init_64 : decode cX12_init 64 = .ok (.newarray .char, 2) := by decide +kernel
theorem dX12_init_66 : decode cX12_init 66 = .ok (.dup, 1) := by decide +kernel
theorem dX12_init_67 : decode cX12_init 67 = .ok (.iconst 0, 1) := by decide +kernel
theorem dX12_init_68 : decode cX12_init 68 = .ok (.bipush 112, 2) := by decide +kernel
theorem dX12_init_70 : decode cX12_init 70 = .ok (.castore, 1) := by decide +kernel
theorem dX12_init_71 : decode cX12_init 71 = .ok (.dup, 1) := by decide +kernel
theorem dX12_init_72 : decode cX12_init 72 = .ok (.iconst 1, 1) := by decide +kernel
theorem dX12_init_73 : decode cX12_init 73 = .ok (.bipush 108, 2) := by decide +kernel
theorem dX12_init_75 : decode cX12_init 75 = .ok (.castore, 1) := by decide +kernel
theorem dX12_init_76 : decode cX12_init 76 = .ok (.dup, 1) := by decide +kernel
theorem dX12_init_77 : decode cX12_init 77 = .ok (.iconst 2, 1) := by decide +kernel
theorem dX12_init_78 : decode cX12_init 78 = .ok (.bipush 97, 2) := by decide +kernel
theorem dX12_init_80 : decode cX12_init 80 = .ok (.castore, 1) := by decide +kernel
theorem dX12_init_81 : decode cX12_init 81 = .ok (.dup, 1) := by decide +kernel
theorem dX12_init_82 : decode cX12_init 82 = .ok (.iconst 3, 1) := by decide +kernel
theorem dX12_init_83 : decode cX12_init 83 = .ok (.bipush 121, 2) := by decide +kernel
theorem dX12_init_85 : decode cX12_init 85 = .ok (.castore, 1) := by decide +kernel
theorem dX12_init_86 : decode cX12_init 86 = .ok (.dup, 1) := by decide +kernel
theorem dX12_init_87 : decode cX12_init 87 = .ok (.iconst 4, 1) := by decide +kernel
theorem dX12_init_88 : decode cX12_init 88 = .ok (.bipush 101, 2) := by decide +kernel
theorem dX12_init_90 : decode cX12_init 90 = .ok (.castore, 1) := by decide +kernel
theorem dX12_init_91 : decode cX12_init 91 = .ok (.dup, 1) := by decide +kernel
theorem dX12_init_92 : decode cX12_init 92 = .ok (.iconst 5, 1) := by decide +kernel
theorem dX12_init_93 : decode cX12_init 93 = .ok (.bipush 114, 2) := by decide +kernel
theorem dX12_init_95 : decode cX12_init 95 = .ok (.castore, 1) := by decide +kernel
theorem dX12_init_96 : decode cX12_init 96 = .ok (.dup, 1) := by decide +kernel
theorem dX12_init_97 : decode cX12_init 97 = .ok (.bipush 6, 2) := by decide +kernel
theorem dX12_init_99 : decode cX12_init 99 = .ok (.bipush 32, 2) := by decide +kernel
theorem dX12_init_101 : decode cX12_init 101 = .ok (.castore, 1) := by decide +kernel
theorem dX12_init_102 : decode cX12_init 102 = .ok (.dup, 1) := by decide +kernel
theorem dX12_init_103 : decode cX12_init 103 = .ok (.bipush 7, 2) := by decide +kernel
theorem dX12_init_105 : decode cX12_init 105 = .ok (.bipush 32, 2) := by decide +kernel
theorem dX12_init_107 : decode cX12_init 107 = .ok (.castore, 1) := by decide +kernel
theorem dX12_init_108 : decode cX12_init 108 = .ok (.dup, 1) := by decide +kernel
theorem dX12_init_109 : decode cX12_init 109 = .ok (.bipush 8, 2) := by decide +kernel
theorem dX12_init_111 : decode cX12_init 111 = .ok (.bipush 99, 2) := by decide +kernel
theorem dX12_init_113 : decode cX12_init 113 = .ok (.castore, 1) := by decide +kernel
theorem dX12_init_114 : decode cX12_init 114 = .ok (.dup, 1) := by decide +kernel
theorem dX12_init_115 : decode cX12_init 115 = .ok (.bipush 9, 2) := by decide +kernel
theorem dX12_init_117 : decode cX12_init 117 = .ok (.bipush 111, 2) := by decide +kernel
theorem dX12_init_119 : decode cX12_init 119 = .ok (.castore, 1) := by decide +kernel
theorem dX12_init_120 : decode cX12_init 120 = .ok (.dup, 1) := by decide +kernel
theorem dX12_init_121 : decode cX12_init 121 = .ok (.bipush 10, 2) := by decide +kernel
theorem dX12_init_123 : decode cX12_init 123 = .ok (.bipush 118, 2) := by decide +kernel
theorem dX12_init_125 : decode cX12_init 125 = .ok (.castore, 1) := by decide +kernel
theorem dX12_init_126 : decode cX12_init 126 = .ok (.dup, 1) := by decide +kernel
theorem dX12_init_127 : decode cX12_init 127 = .ok (.bipush 11, 2) := by decide +kernel
theorem dX12_init_129 : decode cX12_init 129 = .ok (.bipush 101, 2) := by decide +kernel
theorem dX12_init_131 : decode cX12_init 131 = .ok (.castore, 1) := by decide +kernel
theorem dX12_init_132 : decode cX12_init 132 = .ok (.dup, 1) := by decide +kernel
theorem dX12_init_133 : decode cX12_init 133 = .ok (.bipush 12, 2) := by decide +kernel
theorem dX12_init_135 : decode cX12_init 135 = .ok (.bipush 114, 2) := by decide +kernel
theorem dX12_init_137 : decode cX12_init 137 = .ok (.castore, 1) := by decide +kernel
theorem dX12_init_138 : decode cX12_init 138 = .ok (.dup, 1) := by decide +kernel
theorem dX12_init_139 : decode cX12_init 139 = .ok (.bipush 13, 2) := by decide +kernel
theorem dX12_init_141 : decode cX12_init 141 = .ok (.bipush 32, 2) := by decide +kernel
theorem dX12_init_143 : decode cX12_init 143 = .ok (.castore, 1) := by decide +kernel
theorem dX12_init_144 : decode cX12_init 144 = .ok (.dup, 1) := by decide +kernel
theorem dX12_init_145 : decode cX12_init 145 = .ok (.bipush 14, 2) := by decide +kernel
theorem dX12_init_147 : decode cX12_init 147 = .ok (.bipush 32, 2) := by decide +kernel
theorem dX12_init_149 : decode cX12_init 149 = .ok (.castore, 1) := by decide +kernel
theorem dX12_init_150 : decode cX12_init 150 = .ok (.dup, 1) := by decide +kernel
theorem dX12_init_151 : decode cX12_init 151 = .ok (.bipush 15, 2) := by decide +kernel
theorem dX12_init_153 : decode cX12_init 153 = .ok (.bipush 32, 2) := by decide +kernel
theorem dX12_init_155 : decode cX12_init 155 = .ok (.castore, 1) := by decide +kernel
theorem dX12_init_156 : decode cX12_init 156 = .ok (.dup, 1) := by decide +kernel
theorem dX12_init_157 : decode cX12_init 157 = .ok (.bipush 16, 2) := by decide +kernel
theorem dX12_init_159 : decode cX12_init 159 = .ok (.bipush 112, 2) := by decide +kernel
theorem dX12_init_161 : decode cX12_init 161 = .ok (.castore, 1) := by decide +kernel
theorem dX12_init_162 : decode cX12_init 162 = .ok (.dup, 1) := by decide +kernel
theorem dX12_init_163 : decode cX12_init 163 = .ok (.bipush 17, 2) := by decide +kernel
theorem dX12_init_165 : decode cX12_init 165 = .ok (.bipush 97, 2) := by decide +kernel
theorem dX12_init_167 : decode cX12_init 167 = .ok (.castore, 1) := by decide +kernel
theorem dX12_init_168 : decode cX12_init 168 = .ok (.dup, 1) := by decide +kernel
theorem dX12_init_169 : decode cX12_init 169 = .ok (.bipush 18, 2) := by decide +kernel
theorem dX12_init_171 : decode cX12_init 171 = .ok (.bipush 103, 2) := by decide +kernel
theorem dX12_init_173 : decode cX12_init 173 = .ok (.castore, 1) := by decide +kernel
theorem dX12_init_174 : decode cX12_init 174 = .ok (.dup, 1) := by decide +kernel
theorem dX12_init_175 : decode cX12_init 175 = .ok (.bipush 19, 2) := by decide +kernel
theorem dX12_init_177 : decode cX12_init 177 = .ok (.bipush 101, 2) := by decide +kernel
theorem dX12_init_179 : decode cX12_init 179 = .ok (.castore, 1) := by decide +kernel
theorem dX12_init_180 : decode cX12_init 180 = .ok (.dup, 1) := by decide +kernel
theorem dX12_init_181 : decode cX12_init 181 = .ok (.bipush 20, 2) := by decide +kernel
theorem dX12_init_183 : decode cX12_init 183 = .ok (.bipush 32, 2) := by decide +kernel
theorem dX12_init_185 : decode cX12_init 185 = .ok (.castore, 1) := by decide +kernel
theorem dX12_init_186 : decode cX12_init 186 = .ok (.dup, 1) := by decide +kernel
theorem dX12_init_187 : decode cX12_init 187 = .ok (.bipush 21, 2) := by decide +kernel
theorem dX12_init_189 : decode cX12_init 189 = .ok (.bipush 32, 2) := by decide +kernel
theorem dX12_init_191 : decode cX12_init 191 = .ok (.castore, 1) := by decide +kernel
theorem dX12_init_192 : decode cX12_init 192 = .ok (.dup, 1) := by decide +kernel
theorem dX12_init_193 : decode cX12_init 193 = .ok (.bipush 22, 2) := by decide +kernel
theorem dX12_init_195 : decode cX12_init 195 = .ok (.bipush 32, 2) := by decide +kernel
theorem dX12_init_197 : decode cX12_init 197 = .ok (.castore, 1) := by decide +kernel
theorem dX12_init_198 : decode cX12_init 198 = .ok (.dup, 1) := by decide +kernel
theorem dX12_init_199 : decode cX12_init 199 = .ok (.bipush 23, 2) := by decide +kernel
theorem dX12_init_201 : decode cX12_init 201 = .ok (.bipush 32, 2) := by decide +kernel
theorem dX12_init_203 : decode cX12_init 203 = .ok (.castore, 1) := by decide +kernel
theorem dX12_init_204 : decode cX12_init 204 = .ok (.dup, 1) := by decide +kernel
theorem dX12_init_205 : decode cX12_init 205 = .ok (.bipush 24, 2) := by decide +kernel
theorem dX12_init_207 : decode cX12_init 207 = .ok (.bipush 115, 2) := by decide +kernel
theorem dX12_init_209 : decode cX12_init 209 = .ok (.castore, 1) := by decide +kernel
theorem dX12_init_210 : decode cX12_init 210 = .ok (.dup, 1) := by decide +kernel
theorem dX12_init_211 : decode cX12_init 211 = .ok (.bipush 25, 2) := by decide +kernel
theorem dX12_init_213 : decode cX12_init 213 = .ok (.bipush 101, 2) := by decide +kernel
theorem dX12_init_215 : decode cX12_init 215 = .ok (.castore, 1) := by decide +kernel
theorem dX12_init_216 : decode cX12_init 216 = .ok (.dup, 1) := by decide +kernel
theorem dX12_init_217 : decode cX12_init 217 = .ok (.bipush 26, 2) := by decide +kernel
theorem dX12_init_219 : decode cX12_init 219 = .ok (.bipush 99, 2) := by decide +kernel
theorem dX12_init_221 : decode cX12_init 221 = .ok (.castore, 1) := by decide +kernel
theorem dX12_init_222 : decode cX12_init 222 = .ok (.dup, 1) := by decide +kernel
theorem dX12_init_223 : decode cX12_init 223 = .ok (.bipush 27, 2) := by decide +kernel
theorem dX12_init_225 : decode cX12_init 225 = .ok (.bipush 111, 2) := by decide +kernel
theorem dX12_init_227 : decode cX12_init 227 = .ok (.castore, 1) := by decide +kernel
theorem dX12_init_228 : decode cX12_init 228 = .ok (.dup, 1) := by decide +kernel
theorem dX12_init_229 : decode cX12_init 229 = .ok (.bipush 28, 2) := by decide +kernel
theorem dX12_init_231 : decode cX12_init 231 = .ok (.bipush 110, 2) := by decide +kernel
theorem dX12_init_233 : decode cX12_init 233 = .ok (.castore, 1) := by decide +kernel
theorem dX12_init_234 : decode cX12_init 234 = .ok (.dup, 1) := by decide +kernel
theorem dX12_init_235 : decode cX12_init 235 = .ok (.bipush 29, 2) := by decide +kernel
theorem dX12_init_237 : decode cX12_init 237 = .ok (.bipush 100, 2) := by decide +kernel
theorem dX12_init_239 : decode cX12_init 239 = .ok (.castore, 1) := by decide +kernel
theorem dX12_init_240 : decode cX12_init 240 = .ok (.dup, 1) := by decide +kernel
theorem dX12_init_241 : decode cX12_init 241 = .ok (.bipush 30, 2) := by decide +kernel
theorem dX12_init_243 : decode cX12_init 243 = .ok (.bipush 32, 2) := by decide +kernel
theorem dX12_init_245 : decode cX12_init 245 = .ok (.castore, 1) := by decide +kernel
theorem dX12_init_246 : decode cX12_init 246 = .ok (.dup, 1) := by decide +kernel
theorem dX12_init_247 : decode cX12_init 247 = .ok (.bipush 31, 2) := by decide +kernel
theorem dX12_init_249 : decode cX12_init 249 = .ok (.bipush 32, 2) := by decide +kernel
theorem dX12_init_251 : decode cX12_init 251 = .ok (.castore, 1) := by decide +kernel
theorem dX12_init_252 : decode cX12_init 252 = .ok (.dup, 1) := by decide +kernel
theorem dX12_init_253 : decode cX12_init 253 = .ok (.bipush 32, 2) := by decide +kernel
theorem dX12_init_255 : decode cX12_init 255 = .ok (.bipush 112, 2) := by decide +kernel
theorem dX12_init_257 : decode cX12_init 257 = .ok (.castore, 1) := by decide +kernel
theorem dX12_init_258 : decode cX12_init 258 = .ok (.dup, 1) := by decide +kernel
theorem dX12_init_259 : decode cX12_init 259 = .ok (.bipush 33, 2) := by decide +kernel
theorem dX12_init_261 : decode cX12_init 261 = .ok (.bipush 114, 2) := by decide +kernel
theorem dX12_init_263 : decode cX12_init 263 = .ok (.castore, 1) := by decide +kernel
theorem dX12_init_264 : decode cX12_init 264 = .ok (.dup, 1) := by decide +kernel
theorem dX12_init_265 : decode cX12_init 265 = .ok (.bipush 34, 2) := by decide +kernel
theorem dX12_init_267 : decode cX12_init 267 = .ok (.bipush 111, 2) := by decide +kernel
theorem dX12_init_269 : decode cX12_init 269 = .ok (.castore, 1) := by decide +kernel
theorem dX12_init_270 : decode cX12_init 270 = .ok (.dup, 1) := by decide +kernel
theorem dX12_init_271 : decode cX12_init 271 = .ok (.bipush 35, 2) := by decide +kernel
theorem dX12_init_273 : decode cX12_init 273 = .ok (.bipush 109, 2) := by decide +kernel
theorem dX12_init_275 : decode cX12_init 275 = .ok (.castore, 1) := by decide +kernel
theorem dX12_init_276 : decode cX12_init 276 = .ok (.dup, 1) := by decide +kernel
theorem dX12_init_277 : decode cX12_init 277 = .ok (.bipush 36, 2) := by decide +kernel
theorem dX12_init_279 : decode cX12_init 279 = .ok (.bipush 112, 2) := by decide +kernel
theorem dX12_init_281 : decode cX12_init 281 = .ok (.castore, 1) := by decide +kernel
theorem dX12_init_282 : decode cX12_init 282 = .ok (.dup, 1) := by decide +kernel
theorem dX12_init_283 : decode cX12_init 283 = .ok (.bipush 37, 2) := by decide +kernel
theorem dX12_init_285 : decode cX12_init 285 = .ok (.bipush 116, 2) := by decide +kernel
theorem dX12_init_287 : decode cX12_init 287 = .ok (.castore, 1) := by decide +kernel
theorem dX12_init_288 : decode cX12_init 288 = .ok (.dup, 1) := by decide +kernel
theorem dX12_init_289 : decode cX12_init 289 = .ok (.bipush 38, 2) := by decide +kernel
theorem dX12_init_291 : decode cX12_init 291 = .ok (.bipush 101, 2) := by decide +kernel
theorem dX12_init_293 : decode cX12_init 293 = .ok (.castore, 1) := by decide +kernel
theorem dX12_init_294 : decode cX12_init 294 = .ok (.dup, 1) := by decide +kernel
theorem dX12_init_295 : decode cX12_init 295 = .ok (.bipush 39, 2) := by decide +kernel
theorem dX12_init_297 : decode cX12_init 297 = .ok (.bipush 114, 2) := by decide +kernel
theorem dX12_init_299 : decode cX12_init 299 = .ok (.castore, 1) := by decide +kernel
theorem dX12_init_300 : decode cX12_init 300 = .ok (.dup, 1) := by decide +kernel
theorem dX12_init_301 : decode cX12_init 301 = .ok (.bipush 40, 2) := by decide +kernel
theorem dX12_init_303 : decode cX12_init 303 = .ok (.bipush 115, 2) := by decide +kernel
theorem dX12_init_305 : decode cX12_init 305 = .ok (.castore, 1) := by decide +kernel
theorem dX12_init_306 : decode cX12_init 306 = .ok (.dup, 1) := by decide +kernel
theorem dX12_init_307 : decode cX12_init 307 = .ok (.bipush 41, 2) := by decide +kernel
theorem dX12_init_309 : decode cX12_init 309 = .ok (.bipush 116, 2) := by decide +kernel
theorem dX12_init_311 : decode cX12_init 311 = .ok (.castore, 1) := by decide +kernel
theorem dX12_init_312 : decode cX12_init 312 = .ok (.dup, 1) := by decide +kernel
theorem dX12_init_313 : decode cX12_init 313 = .ok (.bipush 42, 2) := by decide +kernel
theorem dX12_init_315 : decode cX12_init 315 = .ok (.bipush 97, 2) := by decide +kernel
theorem dX12_init_317 : decode cX12_init 317 = .ok (.castore, 1) := by decide +kernel
theorem dX12_init_318 : decode cX12_init 318 = .ok (.dup, 1) := by decide +kernel
theorem dX12_init_319 : decode cX12_init 319 = .ok (.bipush 43, 2) := by decide +kernel
theorem dX12_init_321 : decode cX12_init 321 = .ok (.bipush 114, 2) := by decide +kernel
theorem dX12_init_323 : decode cX12_init 323 = .ok (.castore, 1) := by decide +kernel
theorem dX12_init_324 : decode cX12_init 324 = .ok (.dup, 1) := by decide +kernel
theorem dX12_init_325 : decode cX12_init 325 = .ok (.bipush 44, 2) := by decide +kernel
theorem dX12_init_327 : decode cX12_init 327 = .ok (.bipush 32, 2) := by decide +kernel
theorem dX12_init_329 : decode cX12_init 329 = .ok (.castore, 1) := by decide +kernel
theorem dX12_init_330 : decode cX12_init 330 = .ok (.dup, 1) := by decide +kernel
theorem dX12_init_331 : decode cX12_init 331 = .ok (.bipush 45, 2) := by decide +kernel
theorem dX12_init_333 : decode cX12_init 333 = .ok (.bipush 32, 2) := by decide +kernel
theorem dX12_init_335 : decode cX12_init 335 = .ok (.castore, 1) := by decide +kernel
theorem dX12_init_336 : decode cX12_init 336 = .ok (.dup, 1) := by decide +kernel
theorem dX12_init_337 : decode cX12_init 337 = .ok (.bipush 46, 2) := by decide +kernel
theorem dX12_init_339 : decode cX12_init 339 = .ok (.bipush 32, 2) := by decide +kernel
theorem dX12_init_341 : decode cX12_init 341 = .ok (.castore, 1) := by decide +kernel
theorem dX12_init_342 : decode cX12_init 342 = .ok (.dup, 1) := by decide +kernel
theorem dX12_init_343 : decode cX12_init 343 = .ok (.bipush 47, 2) := by decide +kernel
theorem dX12_init_345 : decode cX12_init 345 = .ok (.bipush 32, 2) := by decide +kernel
theorem dX12_init_347 : decode cX12_init 347 = .ok (.castore, 1) := by decide +kernel
theorem dX12_init_348 : decode cX12_init 348 = .ok (.dup, 1) := by decide +kernel
theorem dX12_init_349 : decode cX12_init 349 = .ok (.bipush 48, 2) := by decide +kernel
theorem dX12_init_351 : decode cX12_init 351 = .ok (.bipush 112, 2) := by decide +kernel
theorem dX12_init_353 : decode cX12_init 353 = .ok (.castore, 1) := by decide +kernel
theorem dX12_init_354 : decode cX12_init 354 = .ok (.dup, 1) := by decide +kernel
theorem dX12_init_355 : decode cX12_init 355 = .ok (.bipush 49, 2) := by decide +kernel
theorem dX12_init_357 : decode cX12_init 357 = .ok (.bipush 97, 2) := by decide +kernel
theorem dX12_init_359 : decode cX12_init 359 = .ok (.castore, 1) := by decide +kernel
theorem dX12_init_360 : decode cX12_init 360 = .ok (.dup, 1) := by decide +kernel
theorem dX12_init_361 : decode cX12_init 361 = .ok (.bipush 50, 2) := by decide +kernel
theorem dX12_init_363 : decode cX12_init 363 = .ok (.bipush 114, 2) := by decide +kernel
theorem dX12_init_365 : decode cX12_init 365 = .ok (.castore, 1) := by decide +kernel
theorem dX12_init_366 : decode cX12_init 366 = .ok (.dup, 1) := by decide +kernel
theorem dX12_init_367 : decode cX12_init 367 = .ok (.bipush 51, 2) := by decide +kernel
theorem dX12_init_369 : decode cX12_init 369 = .ok (.bipush 116, 2) := by decide +kernel
theorem dX12_init_371 : decode cX12_init 371 = .ok (.castore, 1) := by decide +kernel
theorem dX12_init_372 : decode cX12_init 372 = .ok (.dup, 1) := by decide +kernel
theorem dX12_init_373 : decode cX12_init 373 = .ok (.bipush 52, 2) := by decide +kernel
theorem dX12_init_375 : decode cX12_init 375 = .ok (.bipush 32, 2) := by decide +kernel
theorem dX12_init_377 : decode cX12_init 377 = .ok (.castore, 1) := by decide +kernel
theorem dX12_init_378 : decode cX12_init 378 = .ok (.dup, 1) := by decide +kernel
theorem dX12_init_379 : decode cX12_init 379 = .ok (.bipush 53, 2) := by decide +kernel
theorem dX12_init_381 : decode cX12_init 381 = .ok (.bipush 32, 2) := by decide +kernel
theorem dX12_init_383 : decode cX12_init 383 = .ok (.castore, 1) := by decide +kernel
theorem dX12_init_384 : decode cX12_init 384 = .ok (.dup, 1) := by decide +kernel
theorem dX12_init_385 : decode cX12_init 385 = .ok (.bipush 54, 2) := by decide +kernel
theorem dX12_init_387 : decode cX12_init 387 = .ok (.bipush 32, 2) := by decide +kernel
theorem dX12_init_389 : decode cX12_init 389 = .ok (.castore, 1) := by decide +kernel
theorem dX12_init_390 : decode cX12_init 390 = .ok (.dup, 1) := by decide +kernel
theorem dX12_init_391 : decode cX12_init 391 = .ok (.bipush 55, 2) := by decide +kernel
theorem dX12_init_393 : decode cX12_init 393 = .ok (.bipush 32, 2) := by decide +kernel
theorem dX12_init_395 : decode cX12_init 395 = .ok (.castore, 1) := by decide +kernel
theorem dX12_init_396 : decode cX12_init 396 = .ok (.dup, 1) := by decide +kernel
theorem dX12_init_397 : decode cX12_init 397 = .ok (.bipush 56, 2) := by decide +kernel
theorem dX12_init_399 : decode cX12_init 399 = .ok (.bipush 104, 2) := by decide +kernel
theorem dX12_init_401 : decode cX12_init 401 = .ok (.castore, 1) := by decide +kernel
theorem dX12_init_402 : decode cX12_init 402 = .ok (.dup, 1) := by decide +kernel
theorem dX12_init_403 : decode cX12_init 403 = .ok (.bipush 57, 2) := by decide +kernel
theorem dX12_init_405 : decode cX12_init 405 = .ok (.bipush 101, 2) := by decide +kernel
theorem dX12_init_407 : decode cX12_init 407 = .ok (.castore, 1) := by decide +kernel
theorem dX12_init_408 : decode cX12_init 408 = .ok (.dup, 1) := by decide +kernel
theorem dX12_init_409 : decode cX12_init 409 = .ok (.bipush 58, 2) := by decide +kernel
theorem dX12_init_411 : decode cX12_init 411 = .ok (.bipush 108, 2) := by decide +kernel
theorem dX12_init_413 : decode cX12_init 413 = .ok (.castore, 1) := by decide +kernel
theorem dX12_init_414 : decode cX12_init 414 = .ok (.dup, 1) := by decide +kernel
theorem dX12_init_415 : decode cX12_init 415 = .ok (.bipush 59, 2) := by decide +kernel
theorem dX12_init_417 : decode cX12_init 417 = .ok (.bipush 112, 2) := by decide +kernel
theorem dX12_init_419 : decode cX12_init 419 = .ok (.castore, 1) := by decide +kernel
theorem dX12_init_420 : decode cX12_init 420 = .ok (.dup, 1) := by decide +kernel
theorem dX12_init_421 : decode cX12_init 421 = .ok (.bipush 60, 2) := by decide +kernel
theorem dX12_init_423 : decode cX12_init 423 = .ok (.bipush 32, 2) := by decide +kernel
theorem dX12_init_425 : decode cX12_init 425 = .ok (.castore, 1) := by decide +kernel
theorem dX12_init_426 : decode cX12_init 426 = .ok (.dup, 1) := by decide +kernel
theorem dX12_init_427 : decode cX12_init 427 = .ok (.bipush 61, 2) := by decide +kernel
theorem dX12_init_429 : decode cX12_init 429 = .ok (.bipush 32, 2) := by decide +kernel
theorem dX12_init_431 : decode cX12_init 431 = .ok (.castore, 1) := by decide +kernel
theorem dX12_init_432 : decode cX12_init 432 = .ok (.dup, 1) := by decide +kernel
theorem dX12_init_433 : decode cX12_init 433 = .ok (.bipush 62, 2) := by decide +kernel
theorem dX12_init_435 : decode cX12_init 435 = .ok (.bipush 32, 2) := by decide +kernel
theorem dX12_init_437 : decode cX12_init 437 = .ok (.castore, 1) := by decide +kernel
theorem dX12_init_438 : decode cX12_init 438 = .ok (.dup, 1) := by decide +kernel
theorem dX12_init_439 : decode cX12_init 439 = .ok (.bipush 63, 2) := by decide +kernel
theorem dX12_init_441 : decode cX12_init 441 = .ok (.bipush 32, 2) := by decide +kernel
theorem dX12_init_443 : decode cX12_init 443 = .ok (.castore, 1) := by decide +kernel
theorem dX12_init_444 : decode cX12_init 444 = .ok (.dup, 1) := by decide +kernel
theorem dX12_init_445 : decode cX12_init 445 = .ok (.bipush 64, 2) := by decide +kernel
theorem dX12_init_447 : decode cX12_init 447 = .ok (.bipush 98, 2) := by decide +kernel
theorem dX12_init_449 : decode cX12_init 449 = .ok (.castore, 1) := by decide +kernel
theorem dX12_init_450 : decode cX12_init 450 = .ok (.dup, 1) := by decide +kernel
theorem dX12_init_451 : decode cX12_init 451 = .ok (.bipush 65, 2) := by decide +kernel
theorem dX12_init_453 : decode cX12_init 453 = .ok (.bipush 111, 2) := by decide +kernel
theorem dX12_init_455 : decode cX12_init 455 = .ok (.castore, 1) := by decide +kernel
theorem dX12_init_456 : decode cX12_init 456 = .ok (.dup, 1) := by decide +kernel
theorem dX12_init_457 : decode cX12_init 457 = .ok (.bipush 66, 2) := by decide +kernel
theorem dX12_init_459 : decode cX12_init 459 = .ok (.bipush 111, 2) := by decide +kernel
theorem dX12_init_461 : decode cX12_init 461 = .ok (.castore, 1) := by decide +kernel
theorem dX12_init_462 : decode cX12_init 462 = .ok (.dup, 1) := by decide +kernel
theorem dX12_init_463 : decode cX12_init 463 = .ok (.bipush 67, 2) := by decide +kernel
theorem dX12_init_465 : decode cX12_init 465 = .ok (.bipush 107, 2) := by decide +kernel
theorem dX12_init_467 : decode cX12_init 467 = .ok (.castore, 1) := by decide +kernel
theorem dX12_init_468 : decode cX12_init 468 = .ok (.dup, 1) := by decide +kernel
theorem dX12_init_469 : decode cX12_init 469 = .ok (.bipush 68, 2) := by decide +kernel
theorem dX12_init_471 : decode cX12_init 471 = .ok (.bipush 32, 2) := by decide +kernel
theorem dX12_init_473 : decode cX12_init 473 = .ok (.castore, 1) := by decide +kernel
theorem dX12_init_474 : decode cX12_init 474 = .ok (.dup, 1) := by decide +kernel
theorem dX12_init_475 : decode cX12_init 475 = .ok (.bipush 69, 2) := by decide +kernel
theorem dX12_init_477 : decode cX12_init 477 = .ok (.bipush 32, 2) := by decide +kernel
theorem dX12_init_479 : decode cX12_init 479 = .ok (.castore, 1) := by decide +kernel
theorem dX12_init_480 : decode cX12_init 480 = .ok (.dup, 1) := by decide +kernel
theorem dX12_init_481 : decode cX12_init 481 = .ok (.bipush 70, 2) := by decide +kernel
theorem dX12_init_483 : decode cX12_init 483 = .ok (.bipush 32, 2) := by decide +kernel
theorem dX12_init_485 : decode cX12_init 485 = .ok (.castore, 1) := by decide +kernel
theorem dX12_init_486 : decode cX12_init 486 = .ok (.dup, 1) := by decide +kernel
theorem dX12_init_487 : decode cX12_init 487 = .ok (.bipush 71, 2) := by decide +kernel
theorem dX12_init_489 : decode cX12_init 489 = .ok (.bipush 32, 2) := by decide +kernel
theorem dX12_init_491 : decode cX12_init 491 = .ok (.castore, 1) := by decide +kernel
theorem dX12_init_492 : decode cX12_init 492 = .ok (.dup, 1) := by decide +kernel
theorem dX12_init_493 : decode cX12_init 493 = .ok (.bipush 72, 2) := by decide +kernel
theorem dX12_init_495 : decode cX12_init 495 = .ok (.bipush 108, 2) := by decide +kernel
theorem dX12_init_497 : decode cX12_init 497 = .ok (.castore, 1) := by decide +kernel
theorem dX12_init_498 : decode cX12_init 498 = .ok (.dup, 1) := by decide +kernel
theorem dX12_init_499 : decode cX12_init 499 = .ok (.bipush 73, 2) := by decide +kernel
theorem dX12_init_501 : decode cX12_init 501 = .ok (.bipush 101, 2) := by decide +kernel
theorem dX12_init_503 : decode cX12_init 503 = .ok (.castore, 1) := by decide +kernel
theorem dX12_init_504 : decode cX12_init 504 = .ok (.dup, 1) := by decide +kernel
theorem dX12_init_505 : decode cX12_init 505 = .ok (.bipush 74, 2) := by decide +kernel
theorem dX12_init_507 : decode cX12_init 507 = .ok (.bipush 97, 2) := by decide +kernel
theorem dX12_init_509 : decode cX12_init 509 = .ok (.castore, 1) := by decide +kernel
theorem dX12_init_510 : decode cX12_init 510 = .ok (.dup, 1) := by decide +kernel
theorem dX12_init_511 : decode cX12_init 511 = .ok (.bipush 75, 2) := by decide +kernel
theorem dX12_init_513 : decode cX12_init 513 = .ok (.bipush 115, 2) := by decide +kernel
theorem dX12_init_515 : decode cX12_init 515 = .ok (.castore, 1) := by decide +kernel
theorem dX12_init_516 : decode cX12_init 516 = .ok (.dup, 1) := by decide +kernel
theorem dX12_init_517 : decode cX12_init 517 = .ok (.bipush 76, 2) := by decide +kernel
theorem dX12_init_519 : decode cX12_init 519 = .ok (.bipush 116, 2) := by decide +kernel
theorem dX12_init_521 : decode cX12_init 521 = .ok (.castore, 1) := by decide +kernel
theorem dX12_init_522 : decode cX12_init 522 = .ok (.dup, 1) := by decide +kernel
theorem dX12_init_523 : decode cX12_init 523 = .ok (.bipush 77, 2) := by decide +kernel
theorem dX12_init_525 : decode cX12_init 525 = .ok (.bipush 32, 2) := by decide +kernel
theorem dX12_init_527 : decode cX12_init 527 = .ok (.castore, 1) := by decide +kernel
theorem dX12_init_528 : decode cX12_init 528 = .ok (.dup, 1) := by decide +kernel
theorem dX12_init_529 : decode cX12_init 529 = .ok (.bipush 78, 2) := by decide +kernel
theorem dX12_init_531 : decode cX12_init 531 = .ok (.bipush 32, 2) := by decide +kernel
theorem dX12_init_533 : decode cX12_init 533 = .ok (.castore, 1) := by decide +kernel
theorem dX12_init_534 : decode cX12_init 534 = .ok (.dup, 1) := by decide +kernel
theorem dX12_init_535 : decode cX12_init 535 = .ok (.bipush 79, 2) := by decide +kernel
theorem dX12_init_537 : decode cX12_init 537 = .ok (.bipush 32, 2) := by decide +kernel
theorem dX12_init_539 : decode cX12_init 539 = .ok (.castore, 1) := by decide +kernel
theorem dX12_init_540 : decode cX12_init 540 = .ok (.dup, 1) := by decide +kernel
theorem dX12_init_541 : decode cX12_init 541 = .ok (.bipush 80, 2) := by decide +kernel
theorem dX12_init_543 : decode cX12_init 543 = .ok (.bipush 116, 2) := by decide +kernel
theorem dX12_init_545 : decode cX12_init 545 = .ok (.castore, 1) := by decide +kernel
theorem dX12_init_546 : decode cX12_init 546 = .ok (.dup, 1) := by decide +kernel
theorem dX12_init_547 : decode cX12_init 547 = .ok (.bipush 81, 2) := by decide +kernel
theorem dX12_init_549 : decode cX12_init 549 = .ok (.bipush 104, 2) := by decide +kernel
theorem dX12_init_551 : decode cX12_init 551 = .ok (.castore, 1) := by decide +kernel
theorem dX12_init_552 : decode cX12_init 552 = .ok (.dup, 1) := by decide +kernel
theorem dX12_init_553 : decode cX12_init 553 = .ok (.bipush 82, 2) := by decide +kernel
theorem dX12_init_555 : decode cX12_init 555 = .ok (.bipush 114, 2) := by decide +kernel
theorem dX12_init_557 : decode cX12_init 557 = .ok (.castore, 1) := by decide +kernel
theorem dX12_init_558 : decode cX12_init 558 = .ok (.dup, 1) := by decide +kernel
theorem dX12_init_559 : decode cX12_init 559 = .ok (.bipush 83, 2) := by decide +kernel
theorem dX12_init_561 : decode cX12_init 561 = .ok (.bipush 111, 2) := by decide +kernel
theorem dX12_init_563 : decode cX12_init 563 = .ok (.castore, 1) := by decide +kernel
theorem dX12_init_564 : decode cX12_init 564 = .ok (.dup, 1) := by decide +kernel
theorem dX12_init_565 : decode cX12_init 565 = .ok (.bipush 84, 2) := by decide +kernel
theorem dX12_init_567 : decode cX12_init 567 = .ok (.bipush 97, 2) := by decide +kernel
theorem dX12_init_569 : decode cX12_init 569 = .ok (.castore, 1) := by decide +kernel
theorem dX12_init_570 : decode cX12_init 570 = .ok (.dup, 1) := by decide +kernel
theorem dX12_init_571 : decode cX12_init 571 = .ok (.bipush 85, 2) := by decide +kernel
theorem dX12_init_573 : decode cX12_init 573 = .ok (.bipush 116, 2) := by decide +kernel
theorem dX12_init_575 : decode cX12_init 575 = .ok (.castore, 1) := by decide +kernel
theorem dX12_init_576 : decode cX12_init 576 = .ok (.dup, 1) := by decide +kernel
theorem dX12_init_577 : decode cX12_init 577 = .ok (.bipush 86, 2) := by decide +kernel
theorem dX12_init_579 : decode cX12_init 579 = .ok (.bipush 32, 2) := by decide +kernel
theorem dX12_init_581 : decode cX12_init 581 = .ok (.castore, 1) := by decide +kernel
theorem dX12_init_582 : decode cX12_init 582 = .ok (.dup, 1) := by decide +kernel
theorem dX12_init_583 : decode cX12_init 583 = .ok (.bipush 87, 2) := by decide +kernel
theorem dX12_init_585 : decode cX12_init 585 = .ok (.bipush 32, 2) := by decide +kernel
theorem dX12_init_587 : decode cX12_init 587 = .ok (.castore, 1) := by decide +kernel
theorem dX12_init_588 : decode cX12_init 588 = .ok (.dup, 1) := by decide +kernel
theorem dX12_init_589 : decode cX12_init 589 = .ok (.bipush 88, 2) := by decide +kernel
theorem dX12_init_591 : decode cX12_init 591 = .ok (.bipush 111, 2) := by decide +kernel
theorem dX12_init_593 : decode cX12_init 593 = .ok (.castore, 1) := by decide +kernel
theorem dX12_init_594 : decode cX12_init 594 = .ok (.dup, 1) := by decide +kernel
theorem dX12_init_595 : decode cX12_init 595 = .ok (.bipush 89, 2) := by decide +kernel
theorem dX12_init_597 : decode cX12_init 597 = .ok (.bipush 102, 2) := by decide +kernel
theorem dX12_init_599 : decode cX12_init 599 = .ok (.castore, 1) := by decide +kernel
theorem dX12_init_600 : decode cX12_init 600 = .ok (.dup, 1) := by decide +kernel
theorem dX12_init_601 : decode cX12_init 601 = .ok (.bipush 90, 2) := by decide +kernel
theorem dX12_init_603 : decode cX12_init 603 = .ok (.bipush 32, 2) := by decide +kernel
theorem dX12_init_605 : decode cX12_init 605 = .ok (.castore, 1) := by decide +kernel
theorem dX12_init_606 : decode cX12_init 606 = .ok (.dup, 1) := by decide +kernel
theorem dX12_init_607 : decode cX12_init 607 = .ok (.bipush 91, 2) := by decide +kernel
theorem dX12_init_609 : decode cX12_init 609 = .ok (.bipush 32, 2) := by decide +kernel
theorem dX12_init_611 : decode cX12_init 611 = .ok (.castore, 1) := by decide +kernel
theorem dX12_init_612 : decode cX12_init 612 = .ok (.dup, 1) := by decide +kernel
theorem dX12_init_613 : decode cX12_init 613 = .ok (.bipush 92, 2) := by decide +kernel
theorem dX12_init_615 : decode cX12_init 615 = .ok (.bipush 32, 2) := by decide +kernel
theorem dX12_init_617 : decode cX12_init 617 = .ok (.castore, 1) := by decide +kernel
theorem dX12_init_618 : decode cX12_init 618 = .ok (.dup, 1) := by decide +kernel
theorem dX12_init_619 : decode cX12_init 619 = .ok (.bipush 93, 2) := by decide +kernel
theorem dX12_init_621 : decode cX12_init 621 = .ok (.bipush 32, 2) := by decide +kernel
theorem dX12_init_623 : decode cX12_init 623 = .ok (.castore, 1) := by decide +kernel
theorem dX12_init_624 : decode cX12_init 624 = .ok (.dup, 1) := by decide +kernel
theorem dX12_init_625 : decode cX12_init 625 = .ok (.bipush 94, 2) := by decide +kernel
theorem dX12_init_627 : decode cX12_init 627 = .ok (.bipush 32, 2) := by decide +kernel
theorem dX12_init_629 : decode cX12_init 629 = .ok (.castore, 1) := by decide +kernel
theorem dX12_init_630 : decode cX12_init 630 = .ok (.dup, 1) := by decide +kernel
theorem dX12_init_631 : decode cX12_init 631 = .ok (.bipush 95, 2) := by decide +kernel
theorem dX12_init_633 : decode cX12_init 633 = .ok (.bipush 32, 2) := by decide +kernel
theorem dX12_init_635 : decode cX12_init 635 = .ok (.castore, 1) := by decide +kernel
theorem dX12_init_636 : decode cX12_init 636 = .ok (.dup, 1) := by decide +kernel
theorem dX12_init_637 : decode cX12_init 637 = .ok (.bipush 96, 2) := by decide +kernel
theorem dX12_init_639 : decode cX12_init 639 = .ok (.bipush 107, 2) := by decide +kernel
theorem dX12_init_641 : decode cX12_init 641 = .ok (.castore, 1) := by decide +kernel
theorem dX12_init_642 : decode cX12_init 642 = .ok (.dup, 1) := by decide +kernel
theorem dX12_init_643 : decode cX12_init 643 = .ok (.bipush 97, 2) := by decide +kernel
theorem dX12_init_645 : decode cX12_init 645 = .ok (.bipush 110, 2) := by decide +kernel
theorem dX12_init_647 : decode cX12_init 647 = .ok (.castore, 1) := by decide +kernel
theorem dX12_init_648 : decode cX12_init 648 = .ok (.dup, 1) := by decide +kernel
theorem dX12_init_649 : decode cX12_init 649 = .ok (.bipush 98, 2) := by decide +kernel
theorem dX12_init_651 : decode cX12_init 651 = .ok (.bipush 111, 2) := by decide +kernel
theorem dX12_init_653 : decode cX12_init 653 = .ok (.castore, 1) := by decide +kernel
theorem dX12_init_654 : decode cX12_init 654 = .ok (.dup, 1) := by decide +kernel
theorem dX12_init_655 : decode cX12_init 655 = .ok (.bipush 99, 2) := by decide +kernel
theorem dX12_init_657 : decode cX12_init 657 = .ok (.bipush 119, 2) := by decide +kernel
theorem dX12_init_659 : decode cX12_init 659 = .ok (.castore, 1) := by decide +kernel
theorem dX12_init_660 : decode cX12_init 660 = .ok (.dup, 1) := by decide +kernel
theorem dX12_init_661 : decode cX12_init 661 = .ok (.bipush 100, 2) := by decide +kernel
theorem dX12_init_663 : decode cX12_init 663 = .ok (.bipush 115, 2) := by decide +kernel
theorem dX12_init_665 : decode cX12_init 665 = .ok (.castore, 1) := by decide +kernel
theorem dX12_init_666 : decode cX12_init 666 = .ok (.dup, 1) := by decide +kernel
theorem dX12_init_667 : decode cX12_init 667 = .ok (.bipush 101, 2) := by decide +kernel
theorem dX12_init_669 : decode cX12_init 669 = .ok (.bipush 32, 2) := by decide +kernel
theorem dX12_init_671 : decode cX12_init 671 = .ok (.castore, 1) := by decide +kernel
theorem dX12_init_672 : decode cX12_init 672 = .ok (.dup, 1) := by decide +kernel
theorem dX12_init_673 : decode cX12_init 673 = .ok (.bipush 102, 2) := by decide +kernel
theorem dX12_init_675 : decode cX12_init 675 = .ok (.bipush 32, 2) := by decide +kernel
theorem dX12_init_677 : decode cX12_init 677 = .ok (.castore, 1) := by decide +kernel
theorem dX12_init_678 : decode cX12_init 678 = .ok (.dup, 1) := by decide +kernel
theorem dX12_init_679 : decode cX12_init 679 = .ok (.bipush 103, 2) := by decide +kernel
theorem dX12_init_681 : decode cX12_init 681 = .ok (.bipush 32, 2) := by decide +kernel
theorem dX12_init_683 : decode cX12_init 683 = .ok (.castore, 1) := by decide +kernel
theorem dX12_init_684 : decode cX12_init 684 = .ok (.dup, 1) := by decide +kernel
theorem dX12_init_685 : decode cX12_init 685 = .ok (.bipush 104, 2) := by decide +kernel
theorem dX12_init_687 : decode cX12_init 687 = .ok (.bipush 105, 2) := by decide +kernel
theorem dX12_init_689 : decode cX12_init 689 = .ok (.castore, 1) := by decide +kernel
theorem dX12_init_690 : decode cX12_init 690 = .ok (.dup, 1) := by decide +kernel
theorem dX12_init_691 : decode cX12_init 691 = .ok (.bipush 105, 2) := by decide +kernel
theorem dX12_init_693 : decode cX12_init 693 = .ok (.bipush 108, 2) := by decide +kernel
theorem dX12_init_695 : decode cX12_init 695 = .ok (.castore, 1) := by decide +kernel
theorem dX12_init_696 : decode cX12_init 696 = .ok (.dup, 1) := by decide +kernel
theorem dX12_init_697 : decode cX12_init 697 = .ok (.bipush 106, 2) := by decide +kernel
theorem dX12_init_699 : decode cX12_init 699 = .ok (.bipush 108, 2) := by decide +kernel
theorem dX12_init_701 : decode cX12_init 701 = .ok (.castore, 1) := by decide +kernel
theorem dX12_init_702 : decode cX12_init 702 = .ok (.dup, 1) := by decide +kernel
theorem dX12_init_703 : decode cX12_init 703 = .ok (.bipush 107, 2) := by decide +kernel
theorem dX12_init_705 : decode cX12_init 705 = .ok (.bipush 32, 2) := by decide +kernel
theorem dX12_init_707 : decode cX12_init 707 = .ok (.castore, 1) := by decide +kernel
theorem dX12_init_708 : decode cX12_init 708 = .ok (.dup, 1) := by decide +kernel
theorem dX12_init_709 : decode cX12_init 709 = .ok (.bipush 108, 2) := by decide +kernel
theorem dX12_init_711 : decode cX12_init 711 = .ok (.bipush 32, 2) := by decide +kernel
theorem dX12_init_713 : decode cX12_init 713 = .ok (.castore, 1) := by decide +kernel
theorem dX12_init_714 : decode cX12_init 714 = .ok (.dup, 1) := by decide +kernel
theorem dX12_init_715 : decode cX12_init 715 = .ok (.bipush 109, 2) := by decide +kernel
theorem dX12_init_717 : decode cX12_init 717 = .ok (.bipush 32, 2) := by decide +kernel
theorem dX12_init_719 : decode cX12_init 719 = .ok (.castore, 1) := by decide +kernel
theorem dX12_init_720 : decode cX12_init 720 = .ok (.dup, 1) := by decide +kernel
theorem dX12_init_721 : decode cX12_init 721 = .ok (.bipush 110, 2) := by decide +kernel
theorem dX12_init_723 : decode cX12_init 723 = .ok (.bipush 32, 2) := by decide +kernel
theorem dX12_init_725 : decode cX12_init 725 = .ok (.castore, 1) := by decide +kernel
theorem dX12_init_726 : decode cX12_init 726 = .ok (.dup, 1) := by decide +kernel
theorem dX12_init_727 : decode cX12_init 727 = .ok (.bipush 111, 2) := by decide +kernel
theorem dX12_init_729 : decode cX12_init 729 = .ok (.bipush 32, 2) := by decide +kernel
theorem dX12_init_731 : decode cX12_init 731 = .ok (.castore, 1) := by decide +kernel
theorem dX12_init_732 : decode cX12_init 732 = .ok (.putfield 31, 3) := by decide +kernel
theorem dX12_init_735 : decode cX12_init 735 = .ok (.aload_n 0, 1) := by decide +kernel
theorem dX12_init_736 : decode cX12_init 736 = .ok (.bipush 30, 2) := by decide +kernel
theorem dX12_init_738 : decode cX12_init 738 = .ok (.newarray .int, 2) := by decide +kernel
theorem dX12_init_740 : decode cX12_init 740 = .ok (.putfield 35, 3) := by decide +kernel
theorem dX12_init_743 : decode cX12_init 743 = .ok (.aload_n 0, 1) := by decide +kernel
theorem dX12_init_744 : decode cX12_init 744 = .ok (.iconst 3, 1) := by decide +kernel
theorem dX12_init_745 : decode cX12_init 745 = .ok (.newarray .int, 2) := by decide +kernel
theorem dX12_init_747 : decode cX12_init 747 = .ok (.putfield 38, 3) := by decide +kernel
theorem dX12_init_750 : decode cX12_init 750 = .ok (.aload_n 0, 1) := by decide +kernel
theorem dX12_init_751 : decode cX12_init 751 = .ok (.iconst 4, 1) := by decide +kernel
theorem dX12_init_752 : decode cX12_init 752 = .ok (.newarray .int, 2) := by decide +kernel
theorem dX12_init_754 : decode cX12_init 754 = .ok (.dup, 1) := by decide +kernel
theorem dX12_init_755 : decode cX12_init 755 = .ok (.iconst 0, 1) := by decide +kernel
theorem dX12_init_756 : decode cX12_init 756 = .ok (.iconst (-1), 1) := by decide +kernel
theorem dX12_init_757 : decode cX12_init 757 = .ok (.iastore, 1) := by decide +kernel
theorem dX12_init_758 : decode cX12_init 758 = .ok (.dup, 1) := by decide +kernel
theorem dX12_init_759 : decode cX12_init 759 = .ok (.iconst 1, 1) := by decide +kernel
theorem dX12_init_760 : decode cX12_init 760 = .ok (.iconst (-1), 1) := by decide +kernel
theorem dX12_init_761 : decode cX12_init 761 = .ok (.iastore, 1) := by decide +kernel
theorem dX12_init_762 : decode cX12_init 762 = .ok (.dup, 1) := by decide +kernel
theorem dX12_init_763 : decode cX12_init 763 = .ok (.iconst 2, 1) := by decide +kernel
theorem dX12_init_764 : decode cX12_init 764 = .ok (.iconst (-1), 1) := by decide +kernel
theorem dX12_init_765 : decode cX12_init 765 = .ok (.iastore, 1) := by decide +kernel
theorem dX12_init_766 : decode cX12_init 766 = .ok (.dup, 1) := by decide +kernel
theorem dX12_init_767 : decode cX12_init 767 = .ok (.iconst 3, 1) := by decide +kernel
theorem dX12_init_768 : decode cX12_init 768 = .ok (.iconst (-1), 1) := by decide +kernel
theorem dX12_init_769 : decode cX12_init 769 = .ok (.iastore, 1) := by decide +kernel
theorem dX12_init_770 : decode cX12_init 770 = .ok (.putfield 41, 3) := by decide +kernel
theorem dX12_init_773 : decode cX12_init 773 = .ok (.aload_n 0, 1) := by decide +kernel
theorem dX12_init_774 : decode cX12_init 774 = .ok (.iconst 4, 1) := by decide +kernel
theorem dX12_init_775 : decode cX12_init 775 = .ok (.newarray .int, 2) := by decide +kernel
theorem dX12_init_777 : decode cX12_init 777 = .ok (.putfield 44, 3) := by decide +kernel
theorem dX12_init_780 : decode cX12_init 780 = .ok (.aload_n 0, 1) := by decide +kernel
theorem dX12_init_781 : decode cX12_init 781 = .ok (.sipush 160, 3) := by decide +kernel
theorem dX12_init_784 : decode cX12_init 784 = .ok (.newarray .int, 2) := by decide +kernel
theorem dX12_init_786 : decode cX12_init 786 = .ok (.putfield 47, 3) := by decide +kernel
theorem dX12_init_789 : decode cX12_init 789 = .ok (.aload_n 0, 1) := by decide +kernel
theorem dX12_init_790 : decode cX12_init 790 = .ok (.iconst 4, 1) := by decide +kernel
theorem dX12_init_791 : decode cX12_init 791 = .ok (.newarray .int, 2) := by decide +kernel
theorem dX12_init_793 : decode cX12_init 793 = .ok (.dup, 1) := by decide +kernel
theorem dX12_init_794 : decode cX12_init 794 = .ok (.iconst 0, 1) := by decide +kernel
theorem dX12_init_795 : decode cX12_init 795 = .ok (.iconst (-1), 1) := by decide +kernel
theorem dX12_init_796 : decode cX12_init 796 = .ok (.iastore, 1) := by decide +kernel
theorem dX12_init_797 : decode cX12_init 797 = .ok (.dup, 1) := by decide +kernel
theorem dX12_init_798 : decode cX12_init 798 = .ok (.iconst 1, 1) := by decide +kernel
theorem dX12_init_799 : decode cX12_init 799 = .ok (.iconst (-1), 1) := by decide +kernel
theorem dX12_init_800 : decode cX12_init 800 = .ok (.iastore, 1) := by decide +kernel
theorem dX12_init_801 : decode cX12_init 801 = .ok (.dup, 1) := by decide +kernel
theorem dX12_init_802 : decode cX12_init 802 = .ok (.iconst 2, 1) := by decide +kernel
theorem dX12_init_803 : decode cX12_init 803 = .ok (.iconst (-1), 1) := by decide +kernel
theorem dX12_init_804 : decode cX12_init 804 = .ok (.iastore, 1) := by decide +kernel
theorem dX12_init_805 : decode cX12_init 805 = .ok (.dup, 1) := by decide +kernel
theorem dX12_init_806 : decode cX12_init 806 = .ok (.iconst 3, 1) := by decide +kernel
theorem dX12_init_807 : decode cX12_init 807 = .ok (.iconst (-1), 1) := by decide +kernel
theorem dX12_init_808 : decode cX12_init 808 = .ok (.iastore, 1) := by decide +kernel
theorem dX12_init_809 : decode cX12_init 809 = .ok (.putfield 50, 3) := by decide +kernel
theorem dX12_init_812 : decode cX12_init 812 = .ok (.aload_n 0, 1) := by decide +kernel
theorem dX12_init_813 : decode cX12_init 813 = .ok (.iconst 4, 1) := by decide +kernel
theorem dX12_init_814 : decode cX12_init 814 = .ok (.newarray .int, 2) := by decide +kernel
theorem dX12_init_816 : decode cX12_init 816 = .ok (.putfield 53, 3) := by decide +kernel
theorem dX12_init_819 : decode cX12_init 819 = .ok (.aload_n 0, 1) := by decide +kernel
theorem dX12_init_820 : decode cX12_init 820 = .ok (.bipush 30, 2) := by decide +kernel
theorem dX12_init_822 : decode cX12_init 822 = .ok (.newarray .int, 2) := by decide +kernel
theorem dX12_init_824 : decode cX12_init 824 = .ok (.putfield 56, 3) := by decide +kernel
theorem dX12_init_827 : decode cX12_init 827 = .ok (.aload_n 0, 1) := by decide +kernel
theorem dX12_init_828 : decode cX12_init 828 = .ok (.getfield 9, 3) := by decide +kernel
theorem dX12_init_831 : decode cX12_init 831 = .ok (.invokestatic 59, 3) := by decide +kernel
theorem dX12_init_834 : decode cX12_init 834 = .ok (.aload_n 0, 1) := by decide +kernel
theorem dX12_init_835 : decode cX12_init 835 = .ok (.getfield 9, 3) := by decide +kernel
theorem dX12_init_838 : decode cX12_init 838 = .ok (.iconst 5, 1) := by decide +kernel
theorem dX12_init_839 : decode cX12_init 839 = .ok (.iconst 1, 1) := by decide +kernel
theorem dX12_init_840 : decode cX12_init 840 = .ok (.iastore, 1) := by decide +kernel
theorem dX12_init_841 : decode cX12_init 841 = .ok (.return_, 1) := by decide +kernel
theorem dX12_begins_0 : decode cX12_begins 0 = .ok (.iconst 0, 1) := by decide +kernel
theorem dX12_begins_1 : decode cX12_begins 1 = .ok (.istore_n 1, 1) := by decide +kernel
theorem dX12_begins_2 : decode cX12_begins 2 = .ok (.iload_n 1, 1) := by decide +kernel
theorem dX12_begins_3 : decode cX12_begins 3 = .ok (.bipush 104, 2) := by decide +kernel
theorem dX12_begins_5 : decode cX12_begins 5 = .ok (.if_icmp .ge 13, 3) := by decide +kernel
theorem dX12_begins_8 : decode cX12_begins 8 = .ok (.aload_n 0, 1) := by decide +kernel
theorem dX12_begins_9 : decode cX12_begins 9 = .ok (.iload_n 1, 1) := by decide +kernel
theorem dX12_begins_10 : decode cX12_begins 10 = .ok (.iconst 0, 1) := by decide +kernel
theorem dX12_begins_11 : decode cX12_begins 11 = .ok (.iastore, 1) := by decide +kernel
theorem dX12_begins_12 : decode cX12_begins 12 = .ok (.iinc 1 1, 3) := by decide +kernel
theorem dX12_begins_15 : decode cX12_begins 15 = .ok (.goto (-13), 3) := by decide +kernel
theorem dX12_begins_18 : decode cX12_begins 18 = .ok (.aload_n 0, 1) := by decide +kernel
theorem dX12_begins_19 : decode cX12_begins 19 = .ok (.iconst 1, 1) := by decide +kernel
theorem dX12_begins_20 : decode cX12_begins 20 = .ok (.iconst 3, 1) := by decide +kernel
theorem dX12_begins_21 : decode cX12_begins 21 = .ok (.iastore, 1) := by decide +kernel
theorem dX12_begins_22 : decode cX12_begins 22 = .ok (.aload_n 0, 1) := by decide +kernel
theorem dX12_begins_23 : decode cX12_begins 23 = .ok (.iconst 2, 1) := by decide +kernel
theorem dX12_begins_24 : decode cX12_begins 24 = .ok (.iconst 4, 1) := by decide +kernel
theorem dX12_begins_25 : decode cX12_begins 25 = .ok (.iastore, 1) := by decide +kernel
theorem dX12_begins_26 : decode cX12_begins 26 = .ok (.aload_n 0, 1) := by decide +kernel
theorem dX12_begins_27 : decode cX12_begins 27 = .ok (.iconst 3, 1) := by decide +kernel
theorem dX12_begins_28 : decode cX12_begins 28 = .ok (.bipush 10, 2) := by decide +kernel
theorem dX12_begins_30 : decode cX12_begins 30 = .ok (.iastore, 1) := by decide +kernel
theorem dX12_begins_31 : decode cX12_begins 31 = .ok (.aload_n 0, 1) := by decide +kernel
theorem dX12_begins_32 : decode cX12_begins 32 = .ok (.iconst 4, 1) := by decide +kernel
theorem dX12_begins_33 : decode cX12_begins 33 = .ok (.bipush 20, 2) := by decide +kernel
theorem dX12_begins_35 : decode cX12_begins 35 = .ok (.iastore, 1) := by decide +kernel
theorem dX12_begins_36 : decode cX12_begins 36 = .ok (.iconst 0, 1) := by decide +kernel
theorem dX12_begins_37 : decode cX12_begins 37 = .ok (.istore_n 1, 1) := by decide +kernel
theorem dX12_begins_38 : decode cX12_begins 38 = .ok (.iload_n 1, 1) := by decide +kernel
theorem dX12_begins_39 : decode cX12_begins 39 = .ok (.bipush 8, 2) := by decide +kernel
theorem dX12_begins_41 : decode cX12_begins 41 = .ok (.if_icmp .ge 16, 3) := by decide +kernel
theorem dX12_begins_44 : decode cX12_begins 44 = .ok (.aload_n 0, 1) := by decide +kernel
theorem dX12_begins_45 : decode cX12_begins 45 = .ok (.bipush 8, 2) := by decide +kernel
theorem dX12_begins_47 : decode cX12_begins 47 = .ok (.iload_n 1, 1) := by decide +kernel
theorem dX12_begins_48 : decode cX12_begins 48 = .ok (.iadd, 1) := by decide +kernel
theorem dX12_begins_49 : decode cX12_begins 49 = .ok (.iconst 3, 1) := by decide +kernel
theorem dX12_begins_50 : decode cX12_begins 50 = .ok (.iastore, 1) := by decide +kernel
theorem dX12_begins_51 : decode cX12_begins 51 = .ok (.iinc 1 1, 3) := by decide +kernel
theorem dX12_begins_54 : decode cX12_begins 54 = .ok (.goto (-16), 3) := by decide +kernel
theorem dX12_begins_57 : decode cX12_begins 57 = .ok (.return_, 1) := by decide +kernel
theorem dX12_in1_0 : decode cX12_in1 0 = .ok (.iload_n 0, 1) := by decide +kernel
theorem dX12_in1_1 : decode cX12_in1 1 = .ok (.iload_n 1, 1) := by decide +kernel
theorem dX12_in1_2 : decode cX12_in1 2 = .ok (.if_icmp .lt 12, 3) := by decide +kernel
theorem dX12_in1_5 : decode cX12_in1 5 = .ok (.iload_n 0, 1) := by decide +kernel
theorem dX12_in1_6 : decode cX12_in1 6 = .ok (.iload_n 2, 1) := by decide +kernel
theorem dX12_in1_7 : decode cX12_in1 7 = .ok (.if_icmp .gt 7, 3) := by decide +kernel
theorem dX12_in1_10 : decode cX12_in1 10 = .ok (.iconst 1, 1) := by decide +kernel
theorem dX12_in1_11 : decode cX12_in1 11 = .ok (.goto 4, 3) := by decide +kernel
theorem dX12_in1_14 : decode cX12_in1 14 = .ok (.iconst 0, 1) := by decide +kernel
theorem dX12_in1_15 : decode cX12_in1 15 = .ok (.ireturn, 1) := by decide +kernel
theorem dX12_held_0 : decode cX12_held 0 = .ok (.iload_n 0, 1) := by decide +kernel
theorem dX12_held_1 : decode cX12_held 1 = .ok (.ifCond .ge 7, 3) := by decide +kernel
theorem dX12_held_4 : decode cX12_held 4 = .ok (.iconst 0, 1) := by decide +kernel
theorem dX12_held_5 : decode cX12_held 5 = .ok (.goto 13, 3) := by decide +kernel
theorem dX12_held_8 : decode cX12_held 8 = .ok (.iload_n 0, 1) := by decide +kernel
theorem dX12_held_9 : decode cX12_held 9 = .ok (.iload_n 1, 1) := by decide +kernel
theorem dX12_held_10 : decode cX12_held 10 = .ok (.if_icmp .le 7, 3) := by decide +kernel
theorem dX12_held_13 : decode cX12_held 13 = .ok (.iload_n 1, 1) := by decide +kernel
theorem dX12_held_14 : decode cX12_held 14 = .ok (.goto 4, 3) := by decide +kernel
theorem dX12_held_17 : decode cX12_held 17 = .ok (.iload_n 0, 1) := by decide +kernel
theorem dX12_held_18 : decode cX12_held 18 = .ok (.ireturn, 1) := by decide +kernel
theorem dX12_copies_0 : decode cX12_copies 0 = .ok (.iconst 0, 1) := by decide +kernel
theorem dX12_copies_1 : decode cX12_copies 1 = .ok (.istore_n 2, 1) := by decide +kernel
theorem dX12_copies_2 : decode cX12_copies 2 = .ok (.iload_n 2, 1) := by decide +kernel
theorem dX12_copies_3 : decode cX12_copies 3 = .ok (.bipush 104, 2) := by decide +kernel
theorem dX12_copies_5 : decode cX12_copies 5 = .ok (.if_icmp .ge 15, 3) := by decide +kernel
theorem dX12_copies_8 : decode cX12_copies 8 = .ok (.aload_n 1, 1) := by decide +kernel
theorem dX12_copies_9 : decode cX12_copies 9 = .ok (.iload_n 2, 1) := by decide +kernel
theorem dX12_copies_10 : decode cX12_copies 10 = .ok (.aload_n 0, 1) := by decide +kernel
theorem dX12_copies_11 : decode cX12_copies 11 = .ok (.iload_n 2, 1) := by decide +kernel
theorem dX12_copies_12 : decode cX12_copies 12 = .ok (.iaload, 1) := by decide +kernel
theorem dX12_copies_13 : decode cX12_copies 13 = .ok (.iastore, 1) := by decide +kernel
theorem dX12_copies_14 : decode cX12_copies 14 = .ok (.iinc 2 1, 3) := by decide +kernel
theorem dX12_copies_17 : decode cX12_copies 17 = .ok (.goto (-15), 3) := by decide +kernel
theorem dX12_copies_20 : decode cX12_copies 20 = .ok (.return_, 1) := by decide +kernel
theorem dX12_isPlayer_0 : decode cX12_isPlayer 0 = .ok (.iload_n 1, 1) := by decide +kernel
theorem dX12_isPlayer_1 : decode cX12_isPlayer 1 = .ok (.iconst 0, 1) := by decide +kernel
theorem dX12_isPlayer_2 : decode cX12_isPlayer 2 = .ok (.aload_n 0, 1) := by decide +kernel
theorem dX12_isPlayer_3 : decode cX12_isPlayer 3 = .ok (.getfield 9, 3) := by decide +kernel
theorem dX12_isPlayer_6 : decode cX12_isPlayer 6 = .ok (.bipush 6, 2) := by decide +kernel
theorem dX12_isPlayer_8 : decode cX12_isPlayer 8 = .ok (.iaload, 1) := by decide +kernel
theorem dX12_isPlayer_9 : decode cX12_isPlayer 9 = .ok (.iconst 1, 1) := by decide +kernel
theorem dX12_isPlayer_10 : decode cX12_isPlayer 10 = .ok (.isub, 1) := by decide +kernel
theorem dX12_isPlayer_11 : decode cX12_isPlayer 11 = .ok (.invokestatic 63, 3) := by decide +kernel
theorem dX12_isPlayer_14 : decode cX12_isPlayer 14 = .ok (.ireturn, 1) := by decide +kernel
theorem dX12_get_0 : decode cX12_get 0 = .ok (.aload_n 0, 1) := by decide +kernel
theorem dX12_get_1 : decode cX12_get 1 = .ok (.getfield 9, 3) := by decide +kernel
theorem dX12_get_4 : decode cX12_get 4 = .ok (.bipush 16, 2) := by decide +kernel
theorem dX12_get_6 : decode cX12_get 6 = .ok (.bipush 11, 2) := by decide +kernel
theorem dX12_get_8 : decode cX12_get 8 = .ok (.iload_n 1, 1) := by decide +kernel
theorem dX12_get_9 : decode cX12_get 9 = .ok (.imul, 1) := by decide +kernel
theorem dX12_get_10 : decode cX12_get 10 = .ok (.iadd, 1) := by decide +kernel
theorem dX12_get_11 : decode cX12_get 11 = .ok (.iload_n 2, 1) := by decide +kernel
theorem dX12_get_12 : decode cX12_get 12 = .ok (.iadd, 1) := by decide +kernel
theorem dX12_get_13 : decode cX12_get 13 = .ok (.iaload, 1) := by decide +kernel
theorem dX12_get_14 : decode cX12_get 14 = .ok (.ireturn, 1) := by decide +kernel
theorem dX12_puts_0 : decode cX12_puts 0 = .ok (.aload_n 0, 1) := by decide +kernel
theorem dX12_puts_1 : decode cX12_puts 1 = .ok (.getfield 9, 3) := by decide +kernel
theorem dX12_puts_4 : decode cX12_puts 4 = .ok (.bipush 16, 2) := by decide +kernel
theorem dX12_puts_6 : decode cX12_puts 6 = .ok (.bipush 11, 2) := by decide +kernel
theorem dX12_puts_8 : decode cX12_puts 8 = .ok (.iload_n 1, 1) := by decide +kernel
theorem dX12_puts_9 : decode cX12_puts 9 = .ok (.imul, 1) := by decide +kernel
theorem dX12_puts_10 : decode cX12_puts 10 = .ok (.iadd, 1) := by decide +kernel
theorem dX12_puts_11 : decode cX12_puts 11 = .ok (.iload_n 2, 1) := by decide +kernel
theorem dX12_puts_12 : decode cX12_puts 12 = .ok (.iadd, 1) := by decide +kernel
theorem dX12_puts_13 : decode cX12_puts 13 = .ok (.iload_n 3, 1) := by decide +kernel
theorem dX12_puts_14 : decode cX12_puts 14 = .ok (.iastore, 1) := by decide +kernel
theorem dX12_puts_15 : decode cX12_puts 15 = .ok (.return_, 1) := by decide +kernel
theorem dX12_becomes_0 : decode cX12_becomes 0 = .ok (.aload_n 0, 1) := by decide +kernel
theorem dX12_becomes_1 : decode cX12_becomes 1 = .ok (.getfield 9, 3) := by decide +kernel
theorem dX12_becomes_4 : decode cX12_becomes 4 = .ok (.iload_n 1, 1) := by decide +kernel
theorem dX12_becomes_5 : decode cX12_becomes 5 = .ok (.iaload, 1) := by decide +kernel
theorem dX12_becomes_6 : decode cX12_becomes 6 = .ok (.istore_n 3, 1) := by decide +kernel
theorem dX12_becomes_7 : decode cX12_becomes 7 = .ok (.aload_n 0, 1) := by decide +kernel
theorem dX12_becomes_8 : decode cX12_becomes 8 = .ok (.getfield 9, 3) := by decide +kernel
theorem dX12_becomes_11 : decode cX12_becomes 11 = .ok (.iload_n 1, 1) := by decide +kernel
theorem dX12_becomes_12 : decode cX12_becomes 12 = .ok (.iload_n 2, 1) := by decide +kernel
theorem dX12_becomes_13 : decode cX12_becomes 13 = .ok (.iastore, 1) := by decide +kernel
theorem dX12_becomes_14 : decode cX12_becomes 14 = .ok (.iload_n 3, 1) := by decide +kernel
theorem dX12_becomes_15 : decode cX12_becomes 15 = .ok (.ireturn, 1) := by decide +kernel
theorem dX12_isPart_0 : decode cX12_isPart 0 = .ok (.iload_n 0, 1) := by decide +kernel
theorem dX12_isPart_1 : decode cX12_isPart 1 = .ok (.iconst 0, 1) := by decide +kernel
theorem dX12_isPart_2 : decode cX12_isPart 2 = .ok (.bipush 7, 2) := by decide +kernel
theorem dX12_isPart_4 : decode cX12_isPart 4 = .ok (.invokestatic 63, 3) := by decide +kernel
theorem dX12_isPart_7 : decode cX12_isPart 7 = .ok (.ireturn, 1) := by decide +kernel
theorem dX12_goodAt_0 : decode cX12_goodAt 0 = .ok (.aload_n 0, 1) := by decide +kernel
theorem dX12_goodAt_1 : decode cX12_goodAt 1 = .ok (.iload_n 1, 1) := by decide +kernel
theorem dX12_goodAt_2 : decode cX12_goodAt 2 = .ok (.iconst 3, 1) := by decide +kernel
theorem dX12_goodAt_3 : decode cX12_goodAt 3 = .ok (.iload_n 2, 1) := by decide +kernel
theorem dX12_goodAt_4 : decode cX12_goodAt 4 = .ok (.iadd, 1) := by decide +kernel
theorem dX12_goodAt_5 : decode cX12_goodAt 5 = .ok (.invokevirtual 67, 3) := by decide +kernel
theorem dX12_goodAt_8 : decode cX12_goodAt 8 = .ok (.istore_n 3, 1) := by decide +kernel
theorem dX12_goodAt_9 : decode cX12_goodAt 9 = .ok (.aload_n 0, 1) := by decide +kernel
theorem dX12_goodAt_10 : decode cX12_goodAt 10 = .ok (.iload_n 1, 1) := by decide +kernel
theorem dX12_goodAt_11 : decode cX12_goodAt 11 = .ok (.iconst 1, 1) := by decide +kernel
theorem dX12_goodAt_12 : decode cX12_goodAt 12 = .ok (.invokevirtual 67, 3) := by decide +kernel
theorem dX12_goodAt_15 : decode cX12_goodAt 15 = .ok (.iload_n 2, 1) := by decide +kernel
theorem dX12_goodAt_16 : decode cX12_goodAt 16 = .ok (.if_icmp .ne 7, 3) := by decide +kernel
theorem dX12_goodAt_19 : decode cX12_goodAt 19 = .ok (.iconst 1, 1) := by decide +kernel
theorem dX12_goodAt_20 : decode cX12_goodAt 20 = .ok (.goto 4, 3) := by decide +kernel
theorem dX12_goodAt_23 : decode cX12_goodAt 23 = .ok (.iconst 0, 1) := by decide +kernel
theorem dX12_goodAt_24 : decode cX12_goodAt 24 = .ok (.istore 4, 2) := by decide +kernel
theorem dX12_goodAt_26 : decode cX12_goodAt 26 = .ok (.aload_n 0, 1) := by decide +kernel
theorem dX12_goodAt_27 : decode cX12_goodAt 27 = .ok (.iload_n 1, 1) := by decide +kernel
theorem dX12_goodAt_28 : decode cX12_goodAt 28 = .ok (.iconst 0, 1) := by decide +kernel
theorem dX12_goodAt_29 : decode cX12_goodAt 29 = .ok (.invokevirtual 67, 3) := by decide +kernel
theorem dX12_goodAt_32 : decode cX12_goodAt 32 = .ok (.tableswitch 105 1 5 #[36, 54, 58, 79, 92], 36) := by decide +kernel
theorem dX12_goodAt_68 : decode cX12_goodAt 68 = .ok (.iload 4, 2) := by decide +kernel
theorem dX12_goodAt_70 : decode cX12_goodAt 70 = .ok (.ifCond .eq 7, 3) := by decide +kernel
theorem dX12_goodAt_73 : decode cX12_goodAt 73 = .ok (.iload_n 3, 1) := by decide +kernel
theorem dX12_goodAt_74 : decode cX12_goodAt 74 = .ok (.goto 11, 3) := by decide +kernel
theorem dX12_goodAt_77 : decode cX12_goodAt 77 = .ok (.iload_n 3, 1) := by decide +kernel
theorem dX12_goodAt_78 : decode cX12_goodAt 78 = .ok (.aload_n 0, 1) := by decide +kernel
theorem dX12_goodAt_79 : decode cX12_goodAt 79 = .ok (.getfield 9, 3) := by decide +kernel
theorem dX12_goodAt_82 : decode cX12_goodAt 82 = .ok (.iconst 1, 1) := by decide +kernel
theorem dX12_goodAt_83 : decode cX12_goodAt 83 = .ok (.iaload, 1) := by decide +kernel
theorem dX12_goodAt_84 : decode cX12_goodAt 84 = .ok (.iadd, 1) := by decide +kernel
theorem dX12_goodAt_85 : decode cX12_goodAt 85 = .ok (.ireturn, 1) := by decide +kernel
theorem dX12_goodAt_86 : decode cX12_goodAt 86 = .ok (.iload_n 3, 1) := by decide +kernel
theorem dX12_goodAt_87 : decode cX12_goodAt 87 = .ok (.iconst 2, 1) := by decide +kernel
theorem dX12_goodAt_88 : decode cX12_goodAt 88 = .ok (.idiv, 1) := by decide +kernel
theorem dX12_goodAt_89 : decode cX12_goodAt 89 = .ok (.ireturn, 1) := by decide +kernel
theorem dX12_goodAt_90 : decode cX12_goodAt 90 = .ok (.iload 4, 2) := by decide +kernel
theorem dX12_goodAt_92 : decode cX12_goodAt 92 = .ok (.ifCond .eq 7, 3) := by decide +kernel
theorem dX12_goodAt_95 : decode cX12_goodAt 95 = .ok (.iload_n 3, 1) := by decide +kernel
theorem dX12_goodAt_96 : decode cX12_goodAt 96 = .ok (.goto 14, 3) := by decide +kernel
theorem dX12_goodAt_99 : decode cX12_goodAt 99 = .ok (.iload_n 3, 1) := by decide +kernel
theorem dX12_goodAt_100 : decode cX12_goodAt 100 = .ok (.aload_n 0, 1) := by decide +kernel
theorem dX12_goodAt_101 : decode cX12_goodAt 101 = .ok (.getfield 9, 3) := by decide +kernel
theorem dX12_goodAt_104 : decode cX12_goodAt 104 = .ok (.iconst 1, 1) := by decide +kernel
theorem dX12_goodAt_105 : decode cX12_goodAt 105 = .ok (.iaload, 1) := by decide +kernel
theorem dX12_goodAt_106 : decode cX12_goodAt 106 = .ok (.iadd, 1) := by decide +kernel
theorem dX12_goodAt_107 : decode cX12_goodAt 107 = .ok (.bipush 10, 2) := by decide +kernel
theorem dX12_goodAt_109 : decode cX12_goodAt 109 = .ok (.iadd, 1) := by decide +kernel
theorem dX12_goodAt_110 : decode cX12_goodAt 110 = .ok (.ireturn, 1) := by decide +kernel
theorem dX12_goodAt_111 : decode cX12_goodAt 111 = .ok (.iload_n 3, 1) := by decide +kernel
theorem dX12_goodAt_112 : decode cX12_goodAt 112 = .ok (.iconst 2, 1) := by decide +kernel
theorem dX12_goodAt_113 : decode cX12_goodAt 113 = .ok (.idiv, 1) := by decide +kernel
theorem dX12_goodAt_114 : decode cX12_goodAt 114 = .ok (.iconst 2, 1) := by decide +kernel
theorem dX12_goodAt_115 : decode cX12_goodAt 115 = .ok (.aload_n 0, 1) := by decide +kernel
theorem dX12_goodAt_116 : decode cX12_goodAt 116 = .ok (.getfield 9, 3) := by decide +kernel
theorem dX12_goodAt_119 : decode cX12_goodAt 119 = .ok (.iconst 2, 1) := by decide +kernel
theorem dX12_goodAt_120 : decode cX12_goodAt 120 = .ok (.iaload, 1) := by decide +kernel
theorem dX12_goodAt_121 : decode cX12_goodAt 121 = .ok (.imul, 1) := by decide +kernel
theorem dX12_goodAt_122 : decode cX12_goodAt 122 = .ok (.iadd, 1) := by decide +kernel
theorem dX12_goodAt_123 : decode cX12_goodAt 123 = .ok (.ireturn, 1) := by decide +kernel
theorem dX12_goodAt_124 : decode cX12_goodAt 124 = .ok (.iload 4, 2) := by decide +kernel
theorem dX12_goodAt_126 : decode cX12_goodAt 126 = .ok (.ifCond .eq 9, 3) := by decide +kernel
theorem dX12_goodAt_129 : decode cX12_goodAt 129 = .ok (.iload_n 3, 1) := by decide +kernel
theorem dX12_goodAt_130 : decode cX12_goodAt 130 = .ok (.iconst 5, 1) := by decide +kernel
theorem dX12_goodAt_131 : decode cX12_goodAt 131 = .ok (.iadd, 1) := by decide +kernel
theorem dX12_goodAt_132 : decode cX12_goodAt 132 = .ok (.goto 4, 3) := by decide +kernel
theorem dX12_goodAt_135 : decode cX12_goodAt 135 = .ok (.iconst 0, 1) := by decide +kernel
theorem dX12_goodAt_136 : decode cX12_goodAt 136 = .ok (.ireturn, 1) := by decide +kernel
theorem dX12_goodAt_137 : decode cX12_goodAt 137 = .ok (.iload_n 3, 1) := by decide +kernel
theorem dX12_goodAt_138 : decode cX12_goodAt 138 = .ok (.ireturn, 1) := by decide +kernel
theorem dX12_learnsOf_0 : decode cX12_learnsOf 0 = .ok (.aload_n 0, 1) := by decide +kernel
theorem dX12_learnsOf_1 : decode cX12_learnsOf 1 = .ok (.iload_n 1, 1) := by decide +kernel
theorem dX12_learnsOf_2 : decode cX12_learnsOf 2 = .ok (.iconst 0, 1) := by decide +kernel
theorem dX12_learnsOf_3 : decode cX12_learnsOf 3 = .ok (.invokevirtual 67, 3) := by decide +kernel
theorem dX12_learnsOf_6 : decode cX12_learnsOf 6 = .ok (.tableswitch 59 1 5 #[34, 43, 46, 55, 57], 34) := by decide +kernel
theorem dX12_learnsOf_40 : decode cX12_learnsOf 40 = .ok (.iconst 2, 1) := by decide +kernel
theorem dX12_learnsOf_41 : decode cX12_learnsOf 41 = .ok (.aload_n 0, 1) := by decide +kernel
theorem dX12_learnsOf_42 : decode cX12_learnsOf 42 = .ok (.getfield 9, 3) := by decide +kernel
theorem dX12_learnsOf_45 : decode cX12_learnsOf 45 = .ok (.iconst 1, 1) := by decide +kernel
theorem dX12_learnsOf_46 : decode cX12_learnsOf 46 = .ok (.iaload, 1) := by decide +kernel
theorem dX12_learnsOf_47 : decode cX12_learnsOf 47 = .ok (.iadd, 1) := by decide +kernel
theorem dX12_learnsOf_48 : decode cX12_learnsOf 48 = .ok (.ireturn, 1) := by decide +kernel
theorem dX12_learnsOf_49 : decode cX12_learnsOf 49 = .ok (.bipush 6, 2) := by decide +kernel
theorem dX12_learnsOf_51 : decode cX12_learnsOf 51 = .ok (.ireturn, 1) := by decide +kernel
theorem dX12_learnsOf_52 : decode cX12_learnsOf 52 = .ok (.iconst 1, 1) := by decide +kernel
theorem dX12_learnsOf_53 : decode cX12_learnsOf 53 = .ok (.aload_n 0, 1) := by decide +kernel
theorem dX12_learnsOf_54 : decode cX12_learnsOf 54 = .ok (.getfield 9, 3) := by decide +kernel
theorem dX12_learnsOf_57 : decode cX12_learnsOf 57 = .ok (.iconst 1, 1) := by decide +kernel
theorem dX12_learnsOf_58 : decode cX12_learnsOf 58 = .ok (.iaload, 1) := by decide +kernel
theorem dX12_learnsOf_59 : decode cX12_learnsOf 59 = .ok (.iadd, 1) := by decide +kernel
theorem dX12_learnsOf_60 : decode cX12_learnsOf 60 = .ok (.ireturn, 1) := by decide +kernel
theorem dX12_learnsOf_61 : decode cX12_learnsOf 61 = .ok (.iconst 0, 1) := by decide +kernel
theorem dX12_learnsOf_62 : decode cX12_learnsOf 62 = .ok (.ireturn, 1) := by decide +kernel
theorem dX12_learnsOf_63 : decode cX12_learnsOf 63 = .ok (.iconst (-1), 1) := by decide +kernel
theorem dX12_learnsOf_64 : decode cX12_learnsOf 64 = .ok (.ireturn, 1) := by decide +kernel
theorem dX12_learnsOf_65 : decode cX12_learnsOf 65 = .ok (.iconst 2, 1) := by decide +kernel
theorem dX12_learnsOf_66 : decode cX12_learnsOf 66 = .ok (.ireturn, 1) := by decide +kernel
theorem dX12_forgetsOf_0 : decode cX12_forgetsOf 0 = .ok (.aload_n 0, 1) := by decide +kernel
theorem dX12_forgetsOf_1 : decode cX12_forgetsOf 1 = .ok (.iload_n 1, 1) := by decide +kernel
theorem dX12_forgetsOf_2 : decode cX12_forgetsOf 2 = .ok (.iconst 0, 1) := by decide +kernel
theorem dX12_forgetsOf_3 : decode cX12_forgetsOf 3 = .ok (.invokevirtual 67, 3) := by decide +kernel
theorem dX12_forgetsOf_6 : decode cX12_forgetsOf 6 = .ok (.tableswitch 47 1 5 #[34, 36, 34, 38, 36], 34) := by decide +kernel
theorem dX12_forgetsOf_40 : decode cX12_forgetsOf 40 = .ok (.iconst 0, 1) := by decide +kernel
theorem dX12_forgetsOf_41 : decode cX12_forgetsOf 41 = .ok (.ireturn, 1) := by decide +kernel
theorem dX12_forgetsOf_42 : decode cX12_forgetsOf 42 = .ok (.iconst 2, 1) := by decide +kernel
theorem dX12_forgetsOf_43 : decode cX12_forgetsOf 43 = .ok (.ireturn, 1) := by decide +kernel
theorem dX12_forgetsOf_44 : decode cX12_forgetsOf 44 = .ok (.iconst 2, 1) := by decide +kernel
theorem dX12_forgetsOf_45 : decode cX12_forgetsOf 45 = .ok (.aload_n 0, 1) := by decide +kernel
theorem dX12_forgetsOf_46 : decode cX12_forgetsOf 46 = .ok (.getfield 9, 3) := by decide +kernel
theorem dX12_forgetsOf_49 : decode cX12_forgetsOf 49 = .ok (.iconst 2, 1) := by decide +kernel
theorem dX12_forgetsOf_50 : decode cX12_forgetsOf 50 = .ok (.iaload, 1) := by decide +kernel
theorem dX12_forgetsOf_51 : decode cX12_forgetsOf 51 = .ok (.isub, 1) := by decide +kernel
theorem dX12_forgetsOf_52 : decode cX12_forgetsOf 52 = .ok (.ireturn, 1) := by decide +kernel
theorem dX12_forgetsOf_53 : decode cX12_forgetsOf 53 = .ok (.iconst 1, 1) := by decide +kernel
theorem dX12_forgetsOf_54 : decode cX12_forgetsOf 54 = .ok (.ireturn, 1) := by decide +kernel
theorem dX12_mayPlay_0 : decode cX12_mayPlay 0 = .ok (.aload_n 0, 1) := by decide +kernel
theorem dX12_mayPlay_1 : decode cX12_mayPlay 1 = .ok (.iload_n 1, 1) := by decide +kernel
theorem dX12_mayPlay_2 : decode cX12_mayPlay 2 = .ok (.iconst 1, 1) := by decide +kernel
theorem dX12_mayPlay_3 : decode cX12_mayPlay 3 = .ok (.invokevirtual 67, 3) := by decide +kernel
theorem dX12_mayPlay_6 : decode cX12_mayPlay 6 = .ok (.istore_n 3, 1) := by decide +kernel
theorem dX12_mayPlay_7 : decode cX12_mayPlay 7 = .ok (.iload_n 3, 1) := by decide +kernel
theorem dX12_mayPlay_8 : decode cX12_mayPlay 8 = .ok (.iload_n 2, 1) := by decide +kernel
theorem dX12_mayPlay_9 : decode cX12_mayPlay 9 = .ok (.if_icmp .eq 43, 3) := by decide +kernel
theorem dX12_mayPlay_12 : decode cX12_mayPlay 12 = .ok (.iload_n 3, 1) := by decide +kernel
theorem dX12_mayPlay_13 : decode cX12_mayPlay 13 = .ok (.iload_n 2, 1) := by decide +kernel
theorem dX12_mayPlay_14 : decode cX12_mayPlay 14 = .ok (.if_icmp .ge 12, 3) := by decide +kernel
theorem dX12_mayPlay_17 : decode cX12_mayPlay 17 = .ok (.aload_n 0, 1) := by decide +kernel
theorem dX12_mayPlay_18 : decode cX12_mayPlay 18 = .ok (.getfield 22, 3) := by decide +kernel
theorem dX12_mayPlay_21 : decode cX12_mayPlay 21 = .ok (.iload_n 3, 1) := by decide +kernel
theorem dX12_mayPlay_22 : decode cX12_mayPlay 22 = .ok (.iaload, 1) := by decide +kernel
theorem dX12_mayPlay_23 : decode cX12_mayPlay 23 = .ok (.ifCond .ge 29, 3) := by decide +kernel
theorem dX12_mayPlay_26 : decode cX12_mayPlay 26 = .ok (.iload_n 3, 1) := by decide +kernel
theorem dX12_mayPlay_27 : decode cX12_mayPlay 27 = .ok (.iload_n 2, 1) := by decide +kernel
theorem dX12_mayPlay_28 : decode cX12_mayPlay 28 = .ok (.if_icmp .le 28, 3) := by decide +kernel
theorem dX12_mayPlay_31 : decode cX12_mayPlay 31 = .ok (.aload_n 0, 1) := by decide +kernel
theorem dX12_mayPlay_32 : decode cX12_mayPlay 32 = .ok (.getfield 9, 3) := by decide +kernel
theorem dX12_mayPlay_35 : decode cX12_mayPlay 35 = .ok (.bipush 8, 2) := by decide +kernel
theorem dX12_mayPlay_37 : decode cX12_mayPlay 37 = .ok (.iload_n 3, 1) := by decide +kernel
theorem dX12_mayPlay_38 : decode cX12_mayPlay 38 = .ok (.iadd, 1) := by decide +kernel
theorem dX12_mayPlay_39 : decode cX12_mayPlay 39 = .ok (.iaload, 1) := by decide +kernel
theorem dX12_mayPlay_40 : decode cX12_mayPlay 40 = .ok (.aload_n 0, 1) := by decide +kernel
theorem dX12_mayPlay_41 : decode cX12_mayPlay 41 = .ok (.getfield 9, 3) := by decide +kernel
theorem dX12_mayPlay_44 : decode cX12_mayPlay 44 = .ok (.bipush 8, 2) := by decide +kernel
theorem dX12_mayPlay_46 : decode cX12_mayPlay 46 = .ok (.iload_n 2, 1) := by decide +kernel
theorem dX12_mayPlay_47 : decode cX12_mayPlay 47 = .ok (.iadd, 1) := by decide +kernel
theorem dX12_mayPlay_48 : decode cX12_mayPlay 48 = .ok (.iaload, 1) := by decide +kernel
theorem dX12_mayPlay_49 : decode cX12_mayPlay 49 = .ok (.if_icmp .gt 7, 3) := by decide +kernel
theorem dX12_mayPlay_52 : decode cX12_mayPlay 52 = .ok (.iconst 1, 1) := by decide +kernel
theorem dX12_mayPlay_53 : decode cX12_mayPlay 53 = .ok (.goto 4, 3) := by decide +kernel
theorem dX12_mayPlay_56 : decode cX12_mayPlay 56 = .ok (.iconst 0, 1) := by decide +kernel
theorem dX12_mayPlay_57 : decode cX12_mayPlay 57 = .ok (.istore 4, 2) := by decide +kernel
theorem dX12_mayPlay_59 : decode cX12_mayPlay 59 = .ok (.iload 4, 2) := by decide +kernel
theorem dX12_mayPlay_61 : decode cX12_mayPlay 61 = .ok (.ifCond .eq 42, 3) := by decide +kernel
theorem dX12_mayPlay_64 : decode cX12_mayPlay 64 = .ok (.aload_n 0, 1) := by decide +kernel
theorem dX12_mayPlay_65 : decode cX12_mayPlay 65 = .ok (.iload_n 1, 1) := by decide +kernel
theorem dX12_mayPlay_66 : decode cX12_mayPlay 66 = .ok (.iconst 2, 1) := by decide +kernel
theorem dX12_mayPlay_67 : decode cX12_mayPlay 67 = .ok (.invokevirtual 67, 3) := by decide +kernel
theorem dX12_mayPlay_70 : decode cX12_mayPlay 70 = .ok (.ifCond .ne 33, 3) := by decide +kernel
theorem dX12_mayPlay_73 : decode cX12_mayPlay 73 = .ok (.aload_n 0, 1) := by decide +kernel
theorem dX12_mayPlay_74 : decode cX12_mayPlay 74 = .ok (.getfield 25, 3) := by decide +kernel
theorem dX12_mayPlay_77 : decode cX12_mayPlay 77 = .ok (.iload_n 1, 1) := by decide +kernel
theorem dX12_mayPlay_78 : decode cX12_mayPlay 78 = .ok (.iaload, 1) := by decide +kernel
theorem dX12_mayPlay_79 : decode cX12_mayPlay 79 = .ok (.bipush 8, 2) := by decide +kernel
theorem dX12_mayPlay_81 : decode cX12_mayPlay 81 = .ok (.if_icmp .ne 22, 3) := by decide +kernel
theorem dX12_mayPlay_84 : decode cX12_mayPlay 84 = .ok (.aload_n 0, 1) := by decide +kernel
theorem dX12_mayPlay_85 : decode cX12_mayPlay 85 = .ok (.iload_n 1, 1) := by decide +kernel
theorem dX12_mayPlay_86 : decode cX12_mayPlay 86 = .ok (.iload_n 2, 1) := by decide +kernel
theorem dX12_mayPlay_87 : decode cX12_mayPlay 87 = .ok (.invokevirtual 71, 3) := by decide +kernel
theorem dX12_mayPlay_90 : decode cX12_mayPlay 90 = .ok (.aload_n 0, 1) := by decide +kernel
theorem dX12_mayPlay_91 : decode cX12_mayPlay 91 = .ok (.getfield 9, 3) := by decide +kernel
theorem dX12_mayPlay_94 : decode cX12_mayPlay 94 = .ok (.iconst 3, 1) := by decide +kernel
theorem dX12_mayPlay_95 : decode cX12_mayPlay 95 = .ok (.iaload, 1) := by decide +kernel
theorem dX12_mayPlay_96 : decode cX12_mayPlay 96 = .ok (.if_icmp .lt 7, 3) := by decide +kernel
theorem dX12_mayPlay_99 : decode cX12_mayPlay 99 = .ok (.iconst 1, 1) := by decide +kernel
theorem dX12_mayPlay_100 : decode cX12_mayPlay 100 = .ok (.goto 4, 3) := by decide +kernel
theorem dX12_mayPlay_103 : decode cX12_mayPlay 103 = .ok (.iconst 0, 1) := by decide +kernel
theorem dX12_mayPlay_104 : decode cX12_mayPlay 104 = .ok (.ireturn, 1) := by decide +kernel
theorem dX12_bills_0 : decode cX12_bills 0 = .ok (.iconst 0, 1) := by decide +kernel
theorem dX12_bills_1 : decode cX12_bills 1 = .ok (.istore_n 1, 1) := by decide +kernel
theorem dX12_bills_2 : decode cX12_bills 2 = .ok (.iload_n 1, 1) := by decide +kernel
theorem dX12_bills_3 : decode cX12_bills 3 = .ok (.bipush 8, 2) := by decide +kernel
theorem dX12_bills_5 : decode cX12_bills 5 = .ok (.if_icmp .ge 24, 3) := by decide +kernel
theorem dX12_bills_8 : decode cX12_bills 8 = .ok (.aload_n 0, 1) := by decide +kernel
theorem dX12_bills_9 : decode cX12_bills 9 = .ok (.getfield 25, 3) := by decide +kernel
theorem dX12_bills_12 : decode cX12_bills 12 = .ok (.iload_n 1, 1) := by decide +kernel
theorem dX12_bills_13 : decode cX12_bills 13 = .ok (.bipush 8, 2) := by decide +kernel
theorem dX12_bills_15 : decode cX12_bills 15 = .ok (.iastore, 1) := by decide +kernel
theorem dX12_bills_16 : decode cX12_bills 16 = .ok (.aload_n 0, 1) := by decide +kernel
theorem dX12_bills_17 : decode cX12_bills 17 = .ok (.getfield 22, 3) := by decide +kernel
theorem dX12_bills_20 : decode cX12_bills 20 = .ok (.iload_n 1, 1) := by decide +kernel
theorem dX12_bills_21 : decode cX12_bills 21 = .ok (.iconst (-1), 1) := by decide +kernel
theorem dX12_bills_22 : decode cX12_bills 22 = .ok (.iastore, 1) := by decide +kernel
theorem dX12_bills_23 : decode cX12_bills 23 = .ok (.iinc 1 1, 3) := by decide +kernel
theorem dX12_bills_26 : decode cX12_bills 26 = .ok (.goto (-24), 3) := by decide +kernel
theorem dX12_bills_29 : decode cX12_bills 29 = .ok (.iconst 0, 1) := by decide +kernel
theorem dX12_bills_30 : decode cX12_bills 30 = .ok (.istore_n 1, 1) := by decide +kernel
theorem dX12_bills_31 : decode cX12_bills 31 = .ok (.iload_n 1, 1) := by decide +kernel
theorem dX12_bills_32 : decode cX12_bills 32 = .ok (.bipush 8, 2) := by decide +kernel
theorem dX12_bills_34 : decode cX12_bills 34 = .ok (.if_icmp .ge 82, 3) := by decide +kernel
theorem dX12_bills_37 : decode cX12_bills 37 = .ok (.iconst (-1), 1) := by decide +kernel
theorem dX12_bills_38 : decode cX12_bills 38 = .ok (.istore_n 2, 1) := by decide +kernel
theorem dX12_bills_39 : decode cX12_bills 39 = .ok (.iconst 0, 1) := by decide +kernel
theorem dX12_bills_40 : decode cX12_bills 40 = .ok (.istore_n 3, 1) := by decide +kernel
theorem dX12_bills_41 : decode cX12_bills 41 = .ok (.iload_n 3, 1) := by decide +kernel
theorem dX12_bills_42 : decode cX12_bills 42 = .ok (.aload_n 0, 1) := by decide +kernel
theorem dX12_bills_43 : decode cX12_bills 43 = .ok (.getfield 9, 3) := by decide +kernel
theorem dX12_bills_46 : decode cX12_bills 46 = .ok (.bipush 6, 2) := by decide +kernel
theorem dX12_bills_48 : decode cX12_bills 48 = .ok (.iaload, 1) := by decide +kernel
theorem dX12_bills_49 : decode cX12_bills 49 = .ok (.if_icmp .ge 43, 3) := by decide +kernel
theorem dX12_bills_52 : decode cX12_bills 52 = .ok (.aload_n 0, 1) := by decide +kernel
theorem dX12_bills_53 : decode cX12_bills 53 = .ok (.iload_n 3, 1) := by decide +kernel
theorem dX12_bills_54 : decode cX12_bills 54 = .ok (.iload_n 1, 1) := by decide +kernel
theorem dX12_bills_55 : decode cX12_bills 55 = .ok (.invokevirtual 74, 3) := by decide +kernel
theorem dX12_bills_58 : decode cX12_bills 58 = .ok (.ifCond .eq 26, 3) := by decide +kernel
theorem dX12_bills_61 : decode cX12_bills 61 = .ok (.iload_n 2, 1) := by decide +kernel
theorem dX12_bills_62 : decode cX12_bills 62 = .ok (.ifCond .lt 18, 3) := by decide +kernel
theorem dX12_bills_65 : decode cX12_bills 65 = .ok (.aload_n 0, 1) := by decide +kernel
theorem dX12_bills_66 : decode cX12_bills 66 = .ok (.iload_n 3, 1) := by decide +kernel
theorem dX12_bills_67 : decode cX12_bills 67 = .ok (.iload_n 1, 1) := by decide +kernel
theorem dX12_bills_68 : decode cX12_bills 68 = .ok (.invokevirtual 71, 3) := by decide +kernel
theorem dX12_bills_71 : decode cX12_bills 71 = .ok (.aload_n 0, 1) := by decide +kernel
theorem dX12_bills_72 : decode cX12_bills 72 = .ok (.iload_n 2, 1) := by decide +kernel
theorem dX12_bills_73 : decode cX12_bills 73 = .ok (.iload_n 1, 1) := by decide +kernel
theorem dX12_bills_74 : decode cX12_bills 74 = .ok (.invokevirtual 71, 3) := by decide +kernel
theorem dX12_bills_77 : decode cX12_bills 77 = .ok (.if_icmp .le 7, 3) := by decide +kernel
theorem dX12_bills_80 : decode cX12_bills 80 = .ok (.iload_n 3, 1) := by decide +kernel
theorem dX12_bills_81 : decode cX12_bills 81 = .ok (.goto 4, 3) := by decide +kernel
theorem dX12_bills_84 : decode cX12_bills 84 = .ok (.iload_n 2, 1) := by decide +kernel
theorem dX12_bills_85 : decode cX12_bills 85 = .ok (.istore_n 2, 1) := by decide +kernel
theorem dX12_bills_86 : decode cX12_bills 86 = .ok (.iinc 3 1, 3) := by decide +kernel
theorem dX12_bills_89 : decode cX12_bills 89 = .ok (.goto (-48), 3) := by decide +kernel
theorem dX12_bills_92 : decode cX12_bills 92 = .ok (.aload_n 0, 1) := by decide +kernel
theorem dX12_bills_93 : decode cX12_bills 93 = .ok (.getfield 22, 3) := by decide +kernel
theorem dX12_bills_96 : decode cX12_bills 96 = .ok (.iload_n 1, 1) := by decide +kernel
theorem dX12_bills_97 : decode cX12_bills 97 = .ok (.iload_n 2, 1) := by decide +kernel
theorem dX12_bills_98 : decode cX12_bills 98 = .ok (.iastore, 1) := by decide +kernel
theorem dX12_bills_99 : decode cX12_bills 99 = .ok (.iload_n 2, 1) := by decide +kernel
theorem dX12_bills_100 : decode cX12_bills 100 = .ok (.ifCond .lt 10, 3) := by decide +kernel
theorem dX12_bills_103 : decode cX12_bills 103 = .ok (.aload_n 0, 1) := by decide +kernel
theorem dX12_bills_104 : decode cX12_bills 104 = .ok (.getfield 25, 3) := by decide +kernel
theorem dX12_bills_107 : decode cX12_bills 107 = .ok (.iload_n 2, 1) := by decide +kernel
theorem dX12_bills_108 : decode cX12_bills 108 = .ok (.iload_n 1, 1) := by decide +kernel
theorem dX12_bills_109 : decode cX12_bills 109 = .ok (.iastore, 1) := by decide +kernel
theorem dX12_bills_110 : decode cX12_bills 110 = .ok (.iinc 1 1, 3) := by decide +kernel
theorem dX12_bills_113 : decode cX12_bills 113 = .ok (.goto (-82), 3) := by decide +kernel
theorem dX12_bills_116 : decode cX12_bills 116 = .ok (.return_, 1) := by decide +kernel
theorem dX12_showNow_0 : decode cX12_showNow 0 = .ok (.iconst 0, 1) := by decide +kernel
theorem dX12_showNow_1 : decode cX12_showNow 1 = .ok (.istore_n 1, 1) := by decide +kernel
theorem dX12_showNow_2 : decode cX12_showNow 2 = .ok (.iconst 0, 1) := by decide +kernel
theorem dX12_showNow_3 : decode cX12_showNow 3 = .ok (.istore_n 2, 1) := by decide +kernel
theorem dX12_showNow_4 : decode cX12_showNow 4 = .ok (.iload_n 2, 1) := by decide +kernel
theorem dX12_showNow_5 : decode cX12_showNow 5 = .ok (.bipush 8, 2) := by decide +kernel
theorem dX12_showNow_7 : decode cX12_showNow 7 = .ok (.if_icmp .ge 46, 3) := by decide +kernel
theorem dX12_showNow_10 : decode cX12_showNow 10 = .ok (.iload_n 1, 1) := by decide +kernel
theorem dX12_showNow_11 : decode cX12_showNow 11 = .ok (.aload_n 0, 1) := by decide +kernel
theorem dX12_showNow_12 : decode cX12_showNow 12 = .ok (.getfield 22, 3) := by decide +kernel
theorem dX12_showNow_15 : decode cX12_showNow 15 = .ok (.iload_n 2, 1) := by decide +kernel
theorem dX12_showNow_16 : decode cX12_showNow 16 = .ok (.iaload, 1) := by decide +kernel
theorem dX12_showNow_17 : decode cX12_showNow 17 = .ok (.ifCond .ge 7, 3) := by decide +kernel
theorem dX12_showNow_20 : decode cX12_showNow 20 = .ok (.iconst 0, 1) := by decide +kernel
theorem dX12_showNow_21 : decode cX12_showNow 21 = .ok (.goto 24, 3) := by decide +kernel
theorem dX12_showNow_24 : decode cX12_showNow 24 = .ok (.aload_n 0, 1) := by decide +kernel
theorem dX12_showNow_25 : decode cX12_showNow 25 = .ok (.getfield 9, 3) := by decide +kernel
theorem dX12_showNow_28 : decode cX12_showNow 28 = .ok (.bipush 8, 2) := by decide +kernel
theorem dX12_showNow_30 : decode cX12_showNow 30 = .ok (.iload_n 2, 1) := by decide +kernel
theorem dX12_showNow_31 : decode cX12_showNow 31 = .ok (.iadd, 1) := by decide +kernel
theorem dX12_showNow_32 : decode cX12_showNow 32 = .ok (.iaload, 1) := by decide +kernel
theorem dX12_showNow_33 : decode cX12_showNow 33 = .ok (.aload_n 0, 1) := by decide +kernel
theorem dX12_showNow_34 : decode cX12_showNow 34 = .ok (.aload_n 0, 1) := by decide +kernel
theorem dX12_showNow_35 : decode cX12_showNow 35 = .ok (.getfield 22, 3) := by decide +kernel
theorem dX12_showNow_38 : decode cX12_showNow 38 = .ok (.iload_n 2, 1) := by decide +kernel
theorem dX12_showNow_39 : decode cX12_showNow 39 = .ok (.iaload, 1) := by decide +kernel
theorem dX12_showNow_40 : decode cX12_showNow 40 = .ok (.iload_n 2, 1) := by decide +kernel
theorem dX12_showNow_41 : decode cX12_showNow 41 = .ok (.invokevirtual 71, 3) := by decide +kernel
theorem dX12_showNow_44 : decode cX12_showNow 44 = .ok (.imul, 1) := by decide +kernel
theorem dX12_showNow_45 : decode cX12_showNow 45 = .ok (.iadd, 1) := by decide +kernel
theorem dX12_showNow_46 : decode cX12_showNow 46 = .ok (.istore_n 1, 1) := by decide +kernel
theorem dX12_showNow_47 : decode cX12_showNow 47 = .ok (.iinc 2 1, 3) := by decide +kernel
theorem dX12_showNow_50 : decode cX12_showNow 50 = .ok (.goto (-46), 3) := by decide +kernel
theorem dX12_showNow_53 : decode cX12_showNow 53 = .ok (.iload_n 1, 1) := by decide +kernel
theorem dX12_showNow_54 : decode cX12_showNow 54 = .ok (.ireturn, 1) := by decide +kernel
theorem dX12_billShow_0 : decode cX12_billShow 0 = .ok (.aload_n 0, 1) := by decide +kernel
theorem dX12_billShow_1 : decode cX12_billShow 1 = .ok (.invokevirtual 78, 3) := by decide +kernel
theorem dX12_billShow_4 : decode cX12_billShow 4 = .ok (.aload_n 0, 1) := by decide +kernel
theorem dX12_billShow_5 : decode cX12_billShow 5 = .ok (.invokevirtual 81, 3) := by decide +kernel
theorem dX12_billShow_8 : decode cX12_billShow 8 = .ok (.ireturn, 1) := by decide +kernel
theorem dX12_cutNow_0 : decode cX12_cutNow 0 = .ok (.aload_n 0, 1) := by decide +kernel
theorem dX12_cutNow_1 : decode cX12_cutNow 1 = .ok (.invokevirtual 78, 3) := by decide +kernel
theorem dX12_cutNow_4 : decode cX12_cutNow 4 = .ok (.iconst 0, 1) := by decide +kernel
theorem dX12_cutNow_5 : decode cX12_cutNow 5 = .ok (.istore_n 1, 1) := by decide +kernel
theorem dX12_cutNow_6 : decode cX12_cutNow 6 = .ok (.iconst 0, 1) := by decide +kernel
theorem dX12_cutNow_7 : decode cX12_cutNow 7 = .ok (.istore_n 2, 1) := by decide +kernel
theorem dX12_cutNow_8 : decode cX12_cutNow 8 = .ok (.iload_n 2, 1) := by decide +kernel
theorem dX12_cutNow_9 : decode cX12_cutNow 9 = .ok (.bipush 8, 2) := by decide +kernel
theorem dX12_cutNow_11 : decode cX12_cutNow 11 = .ok (.if_icmp .ge 28, 3) := by decide +kernel
theorem dX12_cutNow_14 : decode cX12_cutNow 14 = .ok (.iload_n 1, 1) := by decide +kernel
theorem dX12_cutNow_15 : decode cX12_cutNow 15 = .ok (.aload_n 0, 1) := by decide +kernel
theorem dX12_cutNow_16 : decode cX12_cutNow 16 = .ok (.getfield 22, 3) := by decide +kernel
theorem dX12_cutNow_19 : decode cX12_cutNow 19 = .ok (.iload_n 2, 1) := by decide +kernel
theorem dX12_cutNow_20 : decode cX12_cutNow 20 = .ok (.iaload, 1) := by decide +kernel
theorem dX12_cutNow_21 : decode cX12_cutNow 21 = .ok (.ifCond .ge 9, 3) := by decide +kernel
theorem dX12_cutNow_24 : decode cX12_cutNow 24 = .ok (.iconst 1, 1) := by decide +kernel
theorem dX12_cutNow_25 : decode cX12_cutNow 25 = .ok (.iload_n 2, 1) := by decide +kernel
theorem dX12_cutNow_26 : decode cX12_cutNow 26 = .ok (.ishl, 1) := by decide +kernel
theorem dX12_cutNow_27 : decode cX12_cutNow 27 = .ok (.goto 4, 3) := by decide +kernel
theorem dX12_cutNow_30 : decode cX12_cutNow 30 = .ok (.iconst 0, 1) := by decide +kernel
theorem dX12_cutNow_31 : decode cX12_cutNow 31 = .ok (.ior, 1) := by decide +kernel
theorem dX12_cutNow_32 : decode cX12_cutNow 32 = .ok (.istore_n 1, 1) := by decide +kernel
theorem dX12_cutNow_33 : decode cX12_cutNow 33 = .ok (.iinc 2 1, 3) := by decide +kernel
theorem dX12_cutNow_36 : decode cX12_cutNow 36 = .ok (.goto (-28), 3) := by decide +kernel
theorem dX12_cutNow_39 : decode cX12_cutNow 39 = .ok (.iload_n 1, 1) := by decide +kernel
theorem dX12_cutNow_40 : decode cX12_cutNow 40 = .ok (.ireturn, 1) := by decide +kernel
theorem dX12_moves_0 : decode cX12_moves 0 = .ok (.aload_n 0, 1) := by decide +kernel
theorem dX12_moves_1 : decode cX12_moves 1 = .ok (.iload_n 1, 1) := by decide +kernel
theorem dX12_moves_2 : decode cX12_moves 2 = .ok (.iconst 3, 1) := by decide +kernel
theorem dX12_moves_3 : decode cX12_moves 3 = .ok (.iload_n 2, 1) := by decide +kernel
theorem dX12_moves_4 : decode cX12_moves 4 = .ok (.iadd, 1) := by decide +kernel
theorem dX12_moves_5 : decode cX12_moves 5 = .ok (.aload_n 0, 1) := by decide +kernel
theorem dX12_moves_6 : decode cX12_moves 6 = .ok (.iload_n 1, 1) := by decide +kernel
theorem dX12_moves_7 : decode cX12_moves 7 = .ok (.iconst 3, 1) := by decide +kernel
theorem dX12_moves_8 : decode cX12_moves 8 = .ok (.iload_n 2, 1) := by decide +kernel
theorem dX12_moves_9 : decode cX12_moves 9 = .ok (.iadd, 1) := by decide +kernel
theorem dX12_moves_10 : decode cX12_moves 10 = .ok (.invokevirtual 67, 3) := by decide +kernel
theorem dX12_moves_13 : decode cX12_moves 13 = .ok (.iload_n 3, 1) := by decide +kernel
theorem dX12_moves_14 : decode cX12_moves 14 = .ok (.iadd, 1) := by decide +kernel
theorem dX12_moves_15 : decode cX12_moves 15 = .ok (.bipush 99, 2) := by decide +kernel
theorem dX12_moves_17 : decode cX12_moves 17 = .ok (.invokestatic 85, 3) := by decide +kernel
theorem dX12_moves_20 : decode cX12_moves 20 = .ok (.invokevirtual 88, 3) := by decide +kernel
theorem dX12_moves_23 : decode cX12_moves 23 = .ok (.return_, 1) := by decide +kernel
theorem dX12_remembers_0 : decode cX12_remembers 0 = .ok (.iconst 0, 1) := by decide +kernel
theorem dX12_remembers_1 : decode cX12_remembers 1 = .ok (.istore_n 2, 1) := by decide +kernel
theorem dX12_remembers_2 : decode cX12_remembers 2 = .ok (.iload_n 2, 1) := by decide +kernel
theorem dX12_remembers_3 : decode cX12_remembers 3 = .ok (.bipush 8, 2) := by decide +kernel
theorem dX12_remembers_5 : decode cX12_remembers 5 = .ok (.if_icmp .ge 52, 3) := by decide +kernel
theorem dX12_remembers_8 : decode cX12_remembers 8 = .ok (.aload_n 0, 1) := by decide +kernel
theorem dX12_remembers_9 : decode cX12_remembers 9 = .ok (.iload_n 1, 1) := by decide +kernel
theorem dX12_remembers_10 : decode cX12_remembers 10 = .ok (.iload_n 2, 1) := by decide +kernel
theorem dX12_remembers_11 : decode cX12_remembers 11 = .ok (.aload_n 0, 1) := by decide +kernel
theorem dX12_remembers_12 : decode cX12_remembers 12 = .ok (.getfield 25, 3) := by decide +kernel
theorem dX12_remembers_15 : decode cX12_remembers 15 = .ok (.iload_n 1, 1) := by decide +kernel
theorem dX12_remembers_16 : decode cX12_remembers 16 = .ok (.iaload, 1) := by decide +kernel
theorem dX12_remembers_17 : decode cX12_remembers 17 = .ok (.iload_n 2, 1) := by decide +kernel
theorem dX12_remembers_18 : decode cX12_remembers 18 = .ok (.if_icmp .ne 11, 3) := by decide +kernel
theorem dX12_remembers_21 : decode cX12_remembers 21 = .ok (.aload_n 0, 1) := by decide +kernel
theorem dX12_remembers_22 : decode cX12_remembers 22 = .ok (.iload_n 1, 1) := by decide +kernel
theorem dX12_remembers_23 : decode cX12_remembers 23 = .ok (.invokevirtual 92, 3) := by decide +kernel
theorem dX12_remembers_26 : decode cX12_remembers 26 = .ok (.goto 22, 3) := by decide +kernel
theorem dX12_remembers_29 : decode cX12_remembers 29 = .ok (.aload_n 0, 1) := by decide +kernel
theorem dX12_remembers_30 : decode cX12_remembers 30 = .ok (.iload_n 1, 1) := by decide +kernel
theorem dX12_remembers_31 : decode cX12_remembers 31 = .ok (.iconst 2, 1) := by decide +kernel
theorem dX12_remembers_32 : decode cX12_remembers 32 = .ok (.invokevirtual 67, 3) := by decide +kernel
theorem dX12_remembers_35 : decode cX12_remembers 35 = .ok (.ifCond .ne 12, 3) := by decide +kernel
theorem dX12_remembers_38 : decode cX12_remembers 38 = .ok (.aload_n 0, 1) := by decide +kernel
theorem dX12_remembers_39 : decode cX12_remembers 39 = .ok (.iload_n 1, 1) := by decide +kernel
theorem dX12_remembers_40 : decode cX12_remembers 40 = .ok (.invokevirtual 96, 3) := by decide +kernel
theorem dX12_remembers_43 : decode cX12_remembers 43 = .ok (.ineg, 1) := by decide +kernel
theorem dX12_remembers_44 : decode cX12_remembers 44 = .ok (.goto 4, 3) := by decide +kernel
theorem dX12_remembers_47 : decode cX12_remembers 47 = .ok (.iconst 0, 1) := by decide +kernel
theorem dX12_remembers_48 : decode cX12_remembers 48 = .ok (.invokevirtual 99, 3) := by decide +kernel
theorem dX12_remembers_51 : decode cX12_remembers 51 = .ok (.iinc 2 1, 3) := by decide +kernel
theorem dX12_remembers_54 : decode cX12_remembers 54 = .ok (.goto (-52), 3) := by decide +kernel
theorem dX12_remembers_57 : decode cX12_remembers 57 = .ok (.return_, 1) := by decide +kernel
theorem dX12_night1_0 : decode cX12_night1 0 = .ok (.aload_n 0, 1) := by decide +kernel
theorem dX12_night1_1 : decode cX12_night1 1 = .ok (.invokevirtual 102, 3) := by decide +kernel
theorem dX12_night1_4 : decode cX12_night1 4 = .ok (.istore_n 1, 1) := by decide +kernel
theorem dX12_night1_5 : decode cX12_night1 5 = .ok (.iconst 0, 1) := by decide +kernel
theorem dX12_night1_6 : decode cX12_night1 6 = .ok (.istore_n 2, 1) := by decide +kernel
theorem dX12_night1_7 : decode cX12_night1 7 = .ok (.iload_n 2, 1) := by decide +kernel
theorem dX12_night1_8 : decode cX12_night1 8 = .ok (.aload_n 0, 1) := by decide +kernel
theorem dX12_night1_9 : decode cX12_night1 9 = .ok (.getfield 9, 3) := by decide +kernel
theorem dX12_night1_12 : decode cX12_night1 12 = .ok (.bipush 6, 2) := by decide +kernel
theorem dX12_night1_14 : decode cX12_night1 14 = .ok (.iaload, 1) := by decide +kernel
theorem dX12_night1_15 : decode cX12_night1 15 = .ok (.if_icmp .ge 41, 3) := by decide +kernel
theorem dX12_night1_18 : decode cX12_night1 18 = .ok (.aload_n 0, 1) := by decide +kernel
theorem dX12_night1_19 : decode cX12_night1 19 = .ok (.iload_n 2, 1) := by decide +kernel
theorem dX12_night1_20 : decode cX12_night1 20 = .ok (.invokevirtual 105, 3) := by decide +kernel
theorem dX12_night1_23 : decode cX12_night1 23 = .ok (.aload_n 0, 1) := by decide +kernel
theorem dX12_night1_24 : decode cX12_night1 24 = .ok (.iload_n 2, 1) := by decide +kernel
theorem dX12_night1_25 : decode cX12_night1 25 = .ok (.iconst 2, 1) := by decide +kernel
theorem dX12_night1_26 : decode cX12_night1 26 = .ok (.aload_n 0, 1) := by decide +kernel
theorem dX12_night1_27 : decode cX12_night1 27 = .ok (.iload_n 2, 1) := by decide +kernel
theorem dX12_night1_28 : decode cX12_night1 28 = .ok (.iconst 2, 1) := by decide +kernel
theorem dX12_night1_29 : decode cX12_night1 29 = .ok (.invokevirtual 67, 3) := by decide +kernel
theorem dX12_night1_32 : decode cX12_night1 32 = .ok (.ifCond .le 14, 3) := by decide +kernel
theorem dX12_night1_35 : decode cX12_night1 35 = .ok (.aload_n 0, 1) := by decide +kernel
theorem dX12_night1_36 : decode cX12_night1 36 = .ok (.iload_n 2, 1) := by decide +kernel
theorem dX12_night1_37 : decode cX12_night1 37 = .ok (.iconst 2, 1) := by decide +kernel
theorem dX12_night1_38 : decode cX12_night1 38 = .ok (.invokevirtual 67, 3) := by decide +kernel
theorem dX12_night1_41 : decode cX12_night1 41 = .ok (.iconst 1, 1) := by decide +kernel
theorem dX12_night1_42 : decode cX12_night1 42 = .ok (.isub, 1) := by decide +kernel
theorem dX12_night1_43 : decode cX12_night1 43 = .ok (.goto 4, 3) := by decide +kernel
theorem dX12_night1_46 : decode cX12_night1 46 = .ok (.iconst 0, 1) := by decide +kernel
theorem dX12_night1_47 : decode cX12_night1 47 = .ok (.invokevirtual 88, 3) := by decide +kernel
theorem dX12_night1_50 : decode cX12_night1 50 = .ok (.iinc 2 1, 3) := by decide +kernel
theorem dX12_night1_53 : decode cX12_night1 53 = .ok (.goto (-46), 3) := by decide +kernel
theorem dX12_night1_56 : decode cX12_night1 56 = .ok (.aload_n 0, 1) := by decide +kernel
theorem dX12_night1_57 : decode cX12_night1 57 = .ok (.getfield 9, 3) := by decide +kernel
theorem dX12_night1_60 : decode cX12_night1 60 = .ok (.bipush 7, 2) := by decide +kernel
theorem dX12_night1_62 : decode cX12_night1 62 = .ok (.dup2, 1) := by decide +kernel
theorem dX12_night1_63 : decode cX12_night1 63 = .ok (.iaload, 1) := by decide +kernel
theorem dX12_night1_64 : decode cX12_night1 64 = .ok (.iload_n 1, 1) := by decide +kernel
theorem dX12_night1_65 : decode cX12_night1 65 = .ok (.iadd, 1) := by decide +kernel
theorem dX12_night1_66 : decode cX12_night1 66 = .ok (.iastore, 1) := by decide +kernel
theorem dX12_night1_67 : decode cX12_night1 67 = .ok (.aload_n 0, 1) := by decide +kernel
theorem dX12_night1_68 : decode cX12_night1 68 = .ok (.getfield 9, 3) := by decide +kernel
theorem dX12_night1_71 : decode cX12_night1 71 = .ok (.iconst 0, 1) := by decide +kernel
theorem dX12_night1_72 : decode cX12_night1 72 = .ok (.dup2, 1) := by decide +kernel
theorem dX12_night1_73 : decode cX12_night1 73 = .ok (.iaload, 1) := by decide +kernel
theorem dX12_night1_74 : decode cX12_night1 74 = .ok (.iconst 1, 1) := by decide +kernel
theorem dX12_night1_75 : decode cX12_night1 75 = .ok (.iadd, 1) := by decide +kernel
theorem dX12_night1_76 : decode cX12_night1 76 = .ok (.iastore, 1) := by decide +kernel
theorem dX12_night1_77 : decode cX12_night1 77 = .ok (.iload_n 1, 1) := by decide +kernel
theorem dX12_night1_78 : decode cX12_night1 78 = .ok (.ireturn, 1) := by decide +kernel
theorem dX12_holds_0 : decode cX12_holds 0 = .ok (.aload_n 0, 1) := by decide +kernel
theorem dX12_holds_1 : decode cX12_holds 1 = .ok (.getfield 9, 3) := by decide +kernel
theorem dX12_holds_4 : decode cX12_holds 4 = .ok (.bipush 7, 2) := by decide +kernel
theorem dX12_holds_6 : decode cX12_holds 6 = .ok (.aload_n 0, 1) := by decide +kernel
theorem dX12_holds_7 : decode cX12_holds 7 = .ok (.getfield 9, 3) := by decide +kernel
theorem dX12_holds_10 : decode cX12_holds 10 = .ok (.bipush 7, 2) := by decide +kernel
theorem dX12_holds_12 : decode cX12_holds 12 = .ok (.iaload, 1) := by decide +kernel
theorem dX12_holds_13 : decode cX12_holds 13 = .ok (.ldc 109, 2) := by decide +kernel
theorem dX12_holds_15 : decode cX12_holds 15 = .ok (.invokestatic 85, 3) := by decide +kernel
theorem dX12_holds_18 : decode cX12_holds 18 = .ok (.iastore, 1) := by decide +kernel
theorem dX12_holds_19 : decode cX12_holds 19 = .ok (.return_, 1) := by decide +kernel
theorem dX12_goes_0 : decode cX12_goes 0 = .ok (.iconst 0, 1) := by decide +kernel
theorem dX12_goes_1 : decode cX12_goes 1 = .ok (.istore_n 2, 1) := by decide +kernel
theorem dX12_goes_2 : decode cX12_goes 2 = .ok (.iload_n 2, 1) := by decide +kernel
theorem dX12_goes_3 : decode cX12_goes 3 = .ok (.iload_n 1, 1) := by decide +kernel
theorem dX12_goes_4 : decode cX12_goes 4 = .ok (.if_icmp .ge 17, 3) := by decide +kernel
theorem dX12_goes_7 : decode cX12_goes 7 = .ok (.aload_n 0, 1) := by decide +kernel
theorem dX12_goes_8 : decode cX12_goes 8 = .ok (.aload_n 0, 1) := by decide +kernel
theorem dX12_goes_9 : decode cX12_goes 9 = .ok (.invokevirtual 110, 3) := by decide +kernel
theorem dX12_goes_12 : decode cX12_goes 12 = .ok (.putfield 113, 3) := by decide +kernel
theorem dX12_goes_15 : decode cX12_goes 15 = .ok (.iinc 2 1, 3) := by decide +kernel
theorem dX12_goes_18 : decode cX12_goes 18 = .ok (.goto (-16), 3) := by decide +kernel
theorem dX12_goes_21 : decode cX12_goes 21 = .ok (.return_, 1) := by decide +kernel
theorem dX12_illNow_0 : decode cX12_illNow 0 = .ok (.iconst 0, 1) := by decide +kernel
theorem dX12_illNow_1 : decode cX12_illNow 1 = .ok (.istore_n 1, 1) := by decide +kernel
theorem dX12_illNow_2 : decode cX12_illNow 2 = .ok (.iconst 0, 1) := by decide +kernel
theorem dX12_illNow_3 : decode cX12_illNow 3 = .ok (.istore_n 2, 1) := by decide +kernel
theorem dX12_illNow_4 : decode cX12_illNow 4 = .ok (.iload_n 2, 1) := by decide +kernel
theorem dX12_illNow_5 : decode cX12_illNow 5 = .ok (.aload_n 0, 1) := by decide +kernel
theorem dX12_illNow_6 : decode cX12_illNow 6 = .ok (.getfield 9, 3) := by decide +kernel
theorem dX12_illNow_9 : decode cX12_illNow 9 = .ok (.bipush 6, 2) := by decide +kernel
theorem dX12_illNow_11 : decode cX12_illNow 11 = .ok (.iaload, 1) := by decide +kernel
theorem dX12_illNow_12 : decode cX12_illNow 12 = .ok (.if_icmp .ge 28, 3) := by decide +kernel
theorem dX12_illNow_15 : decode cX12_illNow 15 = .ok (.iload_n 1, 1) := by decide +kernel
theorem dX12_illNow_16 : decode cX12_illNow 16 = .ok (.aload_n 0, 1) := by decide +kernel
theorem dX12_illNow_17 : decode cX12_illNow 17 = .ok (.iload_n 2, 1) := by decide +kernel
theorem dX12_illNow_18 : decode cX12_illNow 18 = .ok (.iconst 2, 1) := by decide +kernel
theorem dX12_illNow_19 : decode cX12_illNow 19 = .ok (.invokevirtual 67, 3) := by decide +kernel
theorem dX12_illNow_22 : decode cX12_illNow 22 = .ok (.ifCond .le 9, 3) := by decide +kernel
theorem dX12_illNow_25 : decode cX12_illNow 25 = .ok (.iconst 1, 1) := by decide +kernel
theorem dX12_illNow_26 : decode cX12_illNow 26 = .ok (.iload_n 2, 1) := by decide +kernel
theorem dX12_illNow_27 : decode cX12_illNow 27 = .ok (.ishl, 1) := by decide +kernel
theorem dX12_illNow_28 : decode cX12_illNow 28 = .ok (.goto 4, 3) := by decide +kernel
theorem dX12_illNow_31 : decode cX12_illNow 31 = .ok (.iconst 0, 1) := by decide +kernel
theorem dX12_illNow_32 : decode cX12_illNow 32 = .ok (.ior, 1) := by decide +kernel
theorem dX12_illNow_33 : decode cX12_illNow 33 = .ok (.istore_n 1, 1) := by decide +kernel
theorem dX12_illNow_34 : decode cX12_illNow 34 = .ok (.iinc 2 1, 3) := by decide +kernel
theorem dX12_illNow_37 : decode cX12_illNow 37 = .ok (.goto (-33), 3) := by decide +kernel
theorem dX12_illNow_40 : decode cX12_illNow 40 = .ok (.iload_n 1, 1) := by decide +kernel
theorem dX12_illNow_41 : decode cX12_illNow 41 = .ok (.ireturn, 1) := by decide +kernel
theorem dX12_ones_0 : decode cX12_ones 0 = .ok (.iconst 0, 1) := by decide +kernel
theorem dX12_ones_1 : decode cX12_ones 1 = .ok (.istore_n 1, 1) := by decide +kernel
theorem dX12_ones_2 : decode cX12_ones 2 = .ok (.iload_n 0, 1) := by decide +kernel
theorem dX12_ones_3 : decode cX12_ones 3 = .ok (.istore_n 2, 1) := by decide +kernel
theorem dX12_ones_4 : decode cX12_ones 4 = .ok (.iload_n 2, 1) := by decide +kernel
theorem dX12_ones_5 : decode cX12_ones 5 = .ok (.ifCond .eq 15, 3) := by decide +kernel
theorem dX12_ones_8 : decode cX12_ones 8 = .ok (.iinc 1 1, 3) := by decide +kernel
theorem dX12_ones_11 : decode cX12_ones 11 = .ok (.iload_n 2, 1) := by decide +kernel
theorem dX12_ones_12 : decode cX12_ones 12 = .ok (.iload_n 2, 1) := by decide +kernel
theorem dX12_ones_13 : decode cX12_ones 13 = .ok (.iconst 1, 1) := by decide +kernel
theorem dX12_ones_14 : decode cX12_ones 14 = .ok (.isub, 1) := by decide +kernel
theorem dX12_ones_15 : decode cX12_ones 15 = .ok (.iand, 1) := by decide +kernel
theorem dX12_ones_16 : decode cX12_ones 16 = .ok (.istore_n 2, 1) := by decide +kernel
theorem dX12_ones_17 : decode cX12_ones 17 = .ok (.goto (-13), 3) := by decide +kernel
theorem dX12_ones_20 : decode cX12_ones 20 = .ok (.iload_n 1, 1) := by decide +kernel
theorem dX12_ones_21 : decode cX12_ones 21 = .ok (.ireturn, 1) := by decide +kernel
theorem dX12_byteAt_0 : decode cX12_byteAt 0 = .ok (.iload_n 1, 1) := by decide +kernel
theorem dX12_byteAt_1 : decode cX12_byteAt 1 = .ok (.aload_n 0, 1) := by decide +kernel
theorem dX12_byteAt_2 : decode cX12_byteAt 2 = .ok (.getfield 117, 3) := by decide +kernel
theorem dX12_byteAt_5 : decode cX12_byteAt 5 = .ok (.if_icmp .ge 12, 3) := by decide +kernel
theorem dX12_byteAt_8 : decode cX12_byteAt 8 = .ok (.aload_n 0, 1) := by decide +kernel
theorem dX12_byteAt_9 : decode cX12_byteAt 9 = .ok (.getfield 28, 3) := by decide +kernel
theorem dX12_byteAt_12 : decode cX12_byteAt 12 = .ok (.iload_n 1, 1) := by decide +kernel
theorem dX12_byteAt_13 : decode cX12_byteAt 13 = .ok (.iaload, 1) := by decide +kernel
theorem dX12_byteAt_14 : decode cX12_byteAt 14 = .ok (.goto 4, 3) := by decide +kernel
theorem dX12_byteAt_17 : decode cX12_byteAt 17 = .ok (.iconst (-1), 1) := by decide +kernel
theorem dX12_byteAt_18 : decode cX12_byteAt 18 = .ok (.ireturn, 1) := by decide +kernel
theorem dX12_isNameOf_0 : decode cX12_isNameOf 0 = .ok (.aload_n 0, 1) := by decide +kernel
theorem dX12_isNameOf_1 : decode cX12_isNameOf 1 = .ok (.getfield 120, 3) := by decide +kernel
theorem dX12_isNameOf_4 : decode cX12_isNameOf 4 = .ok (.aload_n 0, 1) := by decide +kernel
theorem dX12_isNameOf_5 : decode cX12_isNameOf 5 = .ok (.getfield 123, 3) := by decide +kernel
theorem dX12_isNameOf_8 : decode cX12_isNameOf 8 = .ok (.isub, 1) := by decide +kernel
theorem dX12_isNameOf_9 : decode cX12_isNameOf 9 = .ok (.bipush 8, 2) := by decide +kernel
theorem dX12_isNameOf_11 : decode cX12_isNameOf 11 = .ok (.if_icmp .gt 7, 3) := by decide +kernel
theorem dX12_isNameOf_14 : decode cX12_isNameOf 14 = .ok (.iconst 1, 1) := by decide +kernel
theorem dX12_isNameOf_15 : decode cX12_isNameOf 15 = .ok (.goto 4, 3) := by decide +kernel
theorem dX12_isNameOf_18 : decode cX12_isNameOf 18 = .ok (.iconst 0, 1) := by decide +kernel
theorem dX12_isNameOf_19 : decode cX12_isNameOf 19 = .ok (.istore_n 2, 1) := by decide +kernel
theorem dX12_isNameOf_20 : decode cX12_isNameOf 20 = .ok (.iconst 0, 1) := by decide +kernel
theorem dX12_isNameOf_21 : decode cX12_isNameOf 21 = .ok (.istore_n 3, 1) := by decide +kernel
theorem dX12_isNameOf_22 : decode cX12_isNameOf 22 = .ok (.iload_n 3, 1) := by decide +kernel
theorem dX12_isNameOf_23 : decode cX12_isNameOf 23 = .ok (.bipush 8, 2) := by decide +kernel
theorem dX12_isNameOf_25 : decode cX12_isNameOf 25 = .ok (.if_icmp .ge 61, 3) := by decide +kernel
theorem dX12_isNameOf_28 : decode cX12_isNameOf 28 = .ok (.iload_n 2, 1) := by decide +kernel
theorem dX12_isNameOf_29 : decode cX12_isNameOf 29 = .ok (.ifCond .eq 57, 3) := by decide +kernel
theorem dX12_isNameOf_32 : decode cX12_isNameOf 32 = .ok (.aload_n 0, 1) := by decide +kernel
theorem dX12_isNameOf_33 : decode cX12_isNameOf 33 = .ok (.getfield 31, 3) := by decide +kernel
theorem dX12_isNameOf_36 : decode cX12_isNameOf 36 = .ok (.bipush 8, 2) := by decide +kernel
theorem dX12_isNameOf_38 : decode cX12_isNameOf 38 = .ok (.iload_n 1, 1) := by decide +kernel
theorem dX12_isNameOf_39 : decode cX12_isNameOf 39 = .ok (.imul, 1) := by decide +kernel
theorem dX12_isNameOf_40 : decode cX12_isNameOf 40 = .ok (.iload_n 3, 1) := by decide +kernel
theorem dX12_isNameOf_41 : decode cX12_isNameOf 41 = .ok (.iadd, 1) := by decide +kernel
theorem dX12_isNameOf_42 : decode cX12_isNameOf 42 = .ok (.caload, 1) := by decide +kernel
theorem dX12_isNameOf_43 : decode cX12_isNameOf 43 = .ok (.aload_n 0, 1) := by decide +kernel
theorem dX12_isNameOf_44 : decode cX12_isNameOf 44 = .ok (.getfield 123, 3) := by decide +kernel
theorem dX12_isNameOf_47 : decode cX12_isNameOf 47 = .ok (.iload_n 3, 1) := by decide +kernel
theorem dX12_isNameOf_48 : decode cX12_isNameOf 48 = .ok (.iadd, 1) := by decide +kernel
theorem dX12_isNameOf_49 : decode cX12_isNameOf 49 = .ok (.aload_n 0, 1) := by decide +kernel
theorem dX12_isNameOf_50 : decode cX12_isNameOf 50 = .ok (.getfield 120, 3) := by decide +kernel
theorem dX12_isNameOf_53 : decode cX12_isNameOf 53 = .ok (.if_icmp .ge 16, 3) := by decide +kernel
theorem dX12_isNameOf_56 : decode cX12_isNameOf 56 = .ok (.aload_n 0, 1) := by decide +kernel
theorem dX12_isNameOf_57 : decode cX12_isNameOf 57 = .ok (.aload_n 0, 1) := by decide +kernel
theorem dX12_isNameOf_58 : decode cX12_isNameOf 58 = .ok (.getfield 123, 3) := by decide +kernel
theorem dX12_isNameOf_61 : decode cX12_isNameOf 61 = .ok (.iload_n 3, 1) := by decide +kernel
theorem dX12_isNameOf_62 : decode cX12_isNameOf 62 = .ok (.iadd, 1) := by decide +kernel
theorem dX12_isNameOf_63 : decode cX12_isNameOf 63 = .ok (.invokevirtual 126, 3) := by decide +kernel
theorem dX12_isNameOf_66 : decode cX12_isNameOf 66 = .ok (.goto 5, 3) := by decide +kernel
theorem dX12_isNameOf_69 : decode cX12_isNameOf 69 = .ok (.bipush 32, 2) := by decide +kernel
theorem dX12_isNameOf_71 : decode cX12_isNameOf 71 = .ok (.if_icmp .ne 7, 3) := by decide +kernel
theorem dX12_isNameOf_74 : decode cX12_isNameOf 74 = .ok (.iconst 1, 1) := by decide +kernel
theorem dX12_isNameOf_75 : decode cX12_isNameOf 75 = .ok (.goto 4, 3) := by decide +kernel
theorem dX12_isNameOf_78 : decode cX12_isNameOf 78 = .ok (.iconst 0, 1) := by decide +kernel
theorem dX12_isNameOf_79 : decode cX12_isNameOf 79 = .ok (.istore_n 2, 1) := by decide +kernel
theorem dX12_isNameOf_80 : decode cX12_isNameOf 80 = .ok (.iinc 3 1, 3) := by decide +kernel
theorem dX12_isNameOf_83 : decode cX12_isNameOf 83 = .ok (.goto (-61), 3) := by decide +kernel
theorem dX12_isNameOf_86 : decode cX12_isNameOf 86 = .ok (.iload_n 2, 1) := by decide +kernel
theorem dX12_isNameOf_87 : decode cX12_isNameOf 87 = .ok (.ireturn, 1) := by decide +kernel
theorem dX12_readsName_0 : decode cX12_readsName 0 = .ok (.aload_n 0, 1) := by decide +kernel
theorem dX12_readsName_1 : decode cX12_readsName 1 = .ok (.aload_n 0, 1) := by decide +kernel
theorem dX12_readsName_2 : decode cX12_readsName 2 = .ok (.getfield 120, 3) := by decide +kernel
theorem dX12_readsName_5 : decode cX12_readsName 5 = .ok (.invokevirtual 126, 3) := by decide +kernel
theorem dX12_readsName_8 : decode cX12_readsName 8 = .ok (.bipush 97, 2) := by decide +kernel
theorem dX12_readsName_10 : decode cX12_readsName 10 = .ok (.bipush 122, 2) := by decide +kernel
theorem dX12_readsName_12 : decode cX12_readsName 12 = .ok (.invokestatic 63, 3) := by decide +kernel
theorem dX12_readsName_15 : decode cX12_readsName 15 = .ok (.ifCond .eq 16, 3) := by decide +kernel
theorem dX12_readsName_18 : decode cX12_readsName 18 = .ok (.aload_n 0, 1) := by decide +kernel
theorem dX12_readsName_19 : decode cX12_readsName 19 = .ok (.dup, 1) := by decide +kernel
theorem dX12_readsName_20 : decode cX12_readsName 20 = .ok (.getfield 120, 3) := by decide +kernel
theorem dX12_readsName_23 : decode cX12_readsName 23 = .ok (.iconst 1, 1) := by decide +kernel
theorem dX12_readsName_24 : decode cX12_readsName 24 = .ok (.iadd, 1) := by decide +kernel
theorem dX12_readsName_25 : decode cX12_readsName 25 = .ok (.putfield 120, 3) := by decide +kernel
theorem dX12_readsName_28 : decode cX12_readsName 28 = .ok (.goto (-28), 3) := by decide +kernel
theorem dX12_readsName_31 : decode cX12_readsName 31 = .ok (.aload_n 0, 1) := by decide +kernel
theorem dX12_readsName_32 : decode cX12_readsName 32 = .ok (.bipush 101, 2) := by decide +kernel
theorem dX12_readsName_34 : decode cX12_readsName 34 = .ok (.putfield 129, 3) := by decide +kernel
theorem dX12_readsName_37 : decode cX12_readsName 37 = .ok (.iconst 0, 1) := by decide +kernel
theorem dX12_readsName_38 : decode cX12_readsName 38 = .ok (.istore_n 1, 1) := by decide +kernel
theorem dX12_readsName_39 : decode cX12_readsName 39 = .ok (.iload_n 1, 1) := by decide +kernel
theorem dX12_readsName_40 : decode cX12_readsName 40 = .ok (.bipush 14, 2) := by decide +kernel
theorem dX12_readsName_42 : decode cX12_readsName 42 = .ok (.if_icmp .ge 29, 3) := by decide +kernel
theorem dX12_readsName_45 : decode cX12_readsName 45 = .ok (.aload_n 0, 1) := by decide +kernel
theorem dX12_readsName_46 : decode cX12_readsName 46 = .ok (.aload_n 0, 1) := by decide +kernel
theorem dX12_readsName_47 : decode cX12_readsName 47 = .ok (.iload_n 1, 1) := by decide +kernel
theorem dX12_readsName_48 : decode cX12_readsName 48 = .ok (.invokevirtual 132, 3) := by decide +kernel
theorem dX12_readsName_51 : decode cX12_readsName 51 = .ok (.ifCond .eq 7, 3) := by decide +kernel
theorem dX12_readsName_54 : decode cX12_readsName 54 = .ok (.iload_n 1, 1) := by decide +kernel
theorem dX12_readsName_55 : decode cX12_readsName 55 = .ok (.goto 7, 3) := by decide +kernel
theorem dX12_readsName_58 : decode cX12_readsName 58 = .ok (.aload_n 0, 1) := by decide +kernel
theorem dX12_readsName_59 : decode cX12_readsName 59 = .ok (.getfield 129, 3) := by decide +kernel
theorem dX12_readsName_62 : decode cX12_readsName 62 = .ok (.putfield 129, 3) := by decide +kernel
theorem dX12_readsName_65 : decode cX12_readsName 65 = .ok (.iinc 1 1, 3) := by decide +kernel
theorem dX12_readsName_68 : decode cX12_readsName 68 = .ok (.goto (-29), 3) := by decide +kernel
theorem dX12_readsName_71 : decode cX12_readsName 71 = .ok (.return_, 1) := by decide +kernel
theorem dX12_readsNumber_0 : decode cX12_readsNumber 0 = .ok (.aload_n 0, 1) := by decide +kernel
theorem dX12_readsNumber_1 : decode cX12_readsNumber 1 = .ok (.iconst 0, 1) := by decide +kernel
theorem dX12_readsNumber_2 : decode cX12_readsNumber 2 = .ok (.putfield 136, 3) := by decide +kernel
theorem dX12_readsNumber_5 : decode cX12_readsNumber 5 = .ok (.aload_n 0, 1) := by decide +kernel
theorem dX12_readsNumber_6 : decode cX12_readsNumber 6 = .ok (.aload_n 0, 1) := by decide +kernel
theorem dX12_readsNumber_7 : decode cX12_readsNumber 7 = .ok (.getfield 120, 3) := by decide +kernel
theorem dX12_readsNumber_10 : decode cX12_readsNumber 10 = .ok (.invokevirtual 126, 3) := by decide +kernel
theorem dX12_readsNumber_13 : decode cX12_readsNumber 13 = .ok (.bipush 48, 2) := by decide +kernel
theorem dX12_readsNumber_15 : decode cX12_readsNumber 15 = .ok (.bipush 57, 2) := by decide +kernel
theorem dX12_readsNumber_17 : decode cX12_readsNumber 17 = .ok (.invokestatic 63, 3) := by decide +kernel
theorem dX12_readsNumber_20 : decode cX12_readsNumber 20 = .ok (.ifCond .eq 59, 3) := by decide +kernel
theorem dX12_readsNumber_23 : decode cX12_readsNumber 23 = .ok (.aload_n 0, 1) := by decide +kernel
theorem dX12_readsNumber_24 : decode cX12_readsNumber 24 = .ok (.aload_n 0, 1) := by decide +kernel
theorem dX12_readsNumber_25 : decode cX12_readsNumber 25 = .ok (.getfield 120, 3) := by decide +kernel
theorem dX12_readsNumber_28 : decode cX12_readsNumber 28 = .ok (.aload_n 0, 1) := by decide +kernel
theorem dX12_readsNumber_29 : decode cX12_readsNumber 29 = .ok (.getfield 123, 3) := by decide +kernel
theorem dX12_readsNumber_32 : decode cX12_readsNumber 32 = .ok (.isub, 1) := by decide +kernel
theorem dX12_readsNumber_33 : decode cX12_readsNumber 33 = .ok (.iconst 3, 1) := by decide +kernel
theorem dX12_readsNumber_34 : decode cX12_readsNumber 34 = .ok (.if_icmp .ge 25, 3) := by decide +kernel
theorem dX12_readsNumber_37 : decode cX12_readsNumber 37 = .ok (.bipush 10, 2) := by decide +kernel
theorem dX12_readsNumber_39 : decode cX12_readsNumber 39 = .ok (.aload_n 0, 1) := by decide +kernel
theorem dX12_readsNumber_40 : decode cX12_readsNumber 40 = .ok (.getfield 136, 3) := by decide +kernel
theorem dX12_readsNumber_43 : decode cX12_readsNumber 43 = .ok (.imul, 1) := by decide +kernel
theorem dX12_readsNumber_44 : decode cX12_readsNumber 44 = .ok (.aload_n 0, 1) := by decide +kernel
theorem dX12_readsNumber_45 : decode cX12_readsNumber 45 = .ok (.aload_n 0, 1) := by decide +kernel
theorem dX12_readsNumber_46 : decode cX12_readsNumber 46 = .ok (.getfield 120, 3) := by decide +kernel
theorem dX12_readsNumber_49 : decode cX12_readsNumber 49 = .ok (.invokevirtual 126, 3) := by decide +kernel
theorem dX12_readsNumber_52 : decode cX12_readsNumber 52 = .ok (.iadd, 1) := by decide +kernel
theorem dX12_readsNumber_53 : decode cX12_readsNumber 53 = .ok (.bipush 48, 2) := by decide +kernel
theorem dX12_readsNumber_55 : decode cX12_readsNumber 55 = .ok (.isub, 1) := by decide +kernel
theorem dX12_readsNumber_56 : decode cX12_readsNumber 56 = .ok (.goto 7, 3) := by decide +kernel
theorem dX12_readsNumber_59 : decode cX12_readsNumber 59 = .ok (.aload_n 0, 1) := by decide +kernel
theorem dX12_readsNumber_60 : decode cX12_readsNumber 60 = .ok (.getfield 136, 3) := by decide +kernel
theorem dX12_readsNumber_63 : decode cX12_readsNumber 63 = .ok (.putfield 136, 3) := by decide +kernel
theorem dX12_readsNumber_66 : decode cX12_readsNumber 66 = .ok (.aload_n 0, 1) := by decide +kernel
theorem dX12_readsNumber_67 : decode cX12_readsNumber 67 = .ok (.dup, 1) := by decide +kernel
theorem dX12_readsNumber_68 : decode cX12_readsNumber 68 = .ok (.getfield 120, 3) := by decide +kernel
theorem dX12_readsNumber_71 : decode cX12_readsNumber 71 = .ok (.iconst 1, 1) := by decide +kernel
theorem dX12_readsNumber_72 : decode cX12_readsNumber 72 = .ok (.iadd, 1) := by decide +kernel
theorem dX12_readsNumber_73 : decode cX12_readsNumber 73 = .ok (.putfield 120, 3) := by decide +kernel
theorem dX12_readsNumber_76 : decode cX12_readsNumber 76 = .ok (.goto (-71), 3) := by decide +kernel
theorem dX12_readsNumber_79 : decode cX12_readsNumber 79 = .ok (.aload_n 0, 1) := by decide +kernel
theorem dX12_readsNumber_80 : decode cX12_readsNumber 80 = .ok (.aload_n 0, 1) := by decide +kernel
theorem dX12_readsNumber_81 : decode cX12_readsNumber 81 = .ok (.getfield 120, 3) := by decide +kernel
theorem dX12_readsNumber_84 : decode cX12_readsNumber 84 = .ok (.aload_n 0, 1) := by decide +kernel
theorem dX12_readsNumber_85 : decode cX12_readsNumber 85 = .ok (.getfield 123, 3) := by decide +kernel
theorem dX12_readsNumber_88 : decode cX12_readsNumber 88 = .ok (.isub, 1) := by decide +kernel
theorem dX12_readsNumber_89 : decode cX12_readsNumber 89 = .ok (.iconst 3, 1) := by decide +kernel
theorem dX12_readsNumber_90 : decode cX12_readsNumber 90 = .ok (.if_icmp .le 8, 3) := by decide +kernel
theorem dX12_readsNumber_93 : decode cX12_readsNumber 93 = .ok (.bipush 101, 2) := by decide +kernel
theorem dX12_readsNumber_95 : decode cX12_readsNumber 95 = .ok (.goto 5, 3) := by decide +kernel
theorem dX12_readsNumber_98 : decode cX12_readsNumber 98 = .ok (.bipush 100, 2) := by decide +kernel
theorem dX12_readsNumber_100 : decode cX12_readsNumber 100 = .ok (.putfield 129, 3) := by decide +kernel
theorem dX12_readsNumber_103 : decode cX12_readsNumber 103 = .ok (.return_, 1) := by decide +kernel
theorem dX12_next_0 : decode cX12_next 0 = .ok (.aload_n 0, 1) := by decide +kernel
theorem dX12_next_1 : decode cX12_next 1 = .ok (.aload_n 0, 1) := by decide +kernel
theorem dX12_next_2 : decode cX12_next 2 = .ok (.getfield 120, 3) := by decide +kernel
theorem dX12_next_5 : decode cX12_next 5 = .ok (.invokevirtual 126, 3) := by decide +kernel
theorem dX12_next_8 : decode cX12_next 8 = .ok (.bipush 32, 2) := by decide +kernel
theorem dX12_next_10 : decode cX12_next 10 = .ok (.if_icmp .ne 16, 3) := by decide +kernel
theorem dX12_next_13 : decode cX12_next 13 = .ok (.aload_n 0, 1) := by decide +kernel
theorem dX12_next_14 : decode cX12_next 14 = .ok (.dup, 1) := by decide +kernel
theorem dX12_next_15 : decode cX12_next 15 = .ok (.getfield 120, 3) := by decide +kernel
theorem dX12_next_18 : decode cX12_next 18 = .ok (.iconst 1, 1) := by decide +kernel
theorem dX12_next_19 : decode cX12_next 19 = .ok (.iadd, 1) := by decide +kernel
theorem dX12_next_20 : decode cX12_next 20 = .ok (.putfield 120, 3) := by decide +kernel
theorem dX12_next_23 : decode cX12_next 23 = .ok (.goto (-23), 3) := by decide +kernel
theorem dX12_next_26 : decode cX12_next 26 = .ok (.aload_n 0, 1) := by decide +kernel
theorem dX12_next_27 : decode cX12_next 27 = .ok (.aload_n 0, 1) := by decide +kernel
theorem dX12_next_28 : decode cX12_next 28 = .ok (.getfield 120, 3) := by decide +kernel
theorem dX12_next_31 : decode cX12_next 31 = .ok (.putfield 123, 3) := by decide +kernel
theorem dX12_next_34 : decode cX12_next 34 = .ok (.aload_n 0, 1) := by decide +kernel
theorem dX12_next_35 : decode cX12_next 35 = .ok (.aload_n 0, 1) := by decide +kernel
theorem dX12_next_36 : decode cX12_next 36 = .ok (.getfield 120, 3) := by decide +kernel
theorem dX12_next_39 : decode cX12_next 39 = .ok (.invokevirtual 126, 3) := by decide +kernel
theorem dX12_next_42 : decode cX12_next 42 = .ok (.istore_n 1, 1) := by decide +kernel
theorem dX12_next_43 : decode cX12_next 43 = .ok (.iload_n 1, 1) := by decide +kernel
theorem dX12_next_44 : decode cX12_next 44 = .ok (.ifCond .ge 11, 3) := by decide +kernel
theorem dX12_next_47 : decode cX12_next 47 = .ok (.aload_n 0, 1) := by decide +kernel
theorem dX12_next_48 : decode cX12_next 48 = .ok (.iconst (-1), 1) := by decide +kernel
theorem dX12_next_49 : decode cX12_next 49 = .ok (.putfield 129, 3) := by decide +kernel
theorem dX12_next_52 : decode cX12_next 52 = .ok (.goto 58, 3) := by decide +kernel
theorem dX12_next_55 : decode cX12_next 55 = .ok (.iload_n 1, 1) := by decide +kernel
theorem dX12_next_56 : decode cX12_next 56 = .ok (.bipush 97, 2) := by decide +kernel
theorem dX12_next_58 : decode cX12_next 58 = .ok (.bipush 122, 2) := by decide +kernel
theorem dX12_next_60 : decode cX12_next 60 = .ok (.invokestatic 63, 3) := by decide +kernel
theorem dX12_next_63 : decode cX12_next 63 = .ok (.ifCond .eq 10, 3) := by decide +kernel
theorem dX12_next_66 : decode cX12_next 66 = .ok (.aload_n 0, 1) := by decide +kernel
theorem dX12_next_67 : decode cX12_next 67 = .ok (.invokevirtual 139, 3) := by decide +kernel
theorem dX12_next_70 : decode cX12_next 70 = .ok (.goto 40, 3) := by decide +kernel
theorem dX12_next_73 : decode cX12_next 73 = .ok (.iload_n 1, 1) := by decide +kernel
theorem dX12_next_74 : decode cX12_next 74 = .ok (.bipush 48, 2) := by decide +kernel
theorem dX12_next_76 : decode cX12_next 76 = .ok (.bipush 57, 2) := by decide +kernel
theorem dX12_next_78 : decode cX12_next 78 = .ok (.invokestatic 63, 3) := by decide +kernel
theorem dX12_next_81 : decode cX12_next 81 = .ok (.ifCond .eq 10, 3) := by decide +kernel
theorem dX12_next_84 : decode cX12_next 84 = .ok (.aload_n 0, 1) := by decide +kernel
theorem dX12_next_85 : decode cX12_next 85 = .ok (.invokevirtual 142, 3) := by decide +kernel
theorem dX12_next_88 : decode cX12_next 88 = .ok (.goto 22, 3) := by decide +kernel
theorem dX12_next_91 : decode cX12_next 91 = .ok (.aload_n 0, 1) := by decide +kernel
theorem dX12_next_92 : decode cX12_next 92 = .ok (.sipush 200, 3) := by decide +kernel
theorem dX12_next_95 : decode cX12_next 95 = .ok (.iload_n 1, 1) := by decide +kernel
theorem dX12_next_96 : decode cX12_next 96 = .ok (.iadd, 1) := by decide +kernel
theorem dX12_next_97 : decode cX12_next 97 = .ok (.putfield 129, 3) := by decide +kernel
theorem dX12_next_100 : decode cX12_next 100 = .ok (.aload_n 0, 1) := by decide +kernel
theorem dX12_next_101 : decode cX12_next 101 = .ok (.dup, 1) := by decide +kernel
theorem dX12_next_102 : decode cX12_next 102 = .ok (.getfield 120, 3) := by decide +kernel
theorem dX12_next_105 : decode cX12_next 105 = .ok (.iconst 1, 1) := by decide +kernel
theorem dX12_next_106 : decode cX12_next 106 = .ok (.iadd, 1) := by decide +kernel
theorem dX12_next_107 : decode cX12_next 107 = .ok (.putfield 120, 3) := by decide +kernel
theorem dX12_next_110 : decode cX12_next 110 = .ok (.return_, 1) := by decide +kernel
theorem dX12_takes_0 : decode cX12_takes 0 = .ok (.aload_n 0, 1) := by decide +kernel
theorem dX12_takes_1 : decode cX12_takes 1 = .ok (.getfield 129, 3) := by decide +kernel
theorem dX12_takes_4 : decode cX12_takes 4 = .ok (.iload_n 1, 1) := by decide +kernel
theorem dX12_takes_5 : decode cX12_takes 5 = .ok (.if_icmp .ne 7, 3) := by decide +kernel
theorem dX12_takes_8 : decode cX12_takes 8 = .ok (.iconst 1, 1) := by decide +kernel
theorem dX12_takes_9 : decode cX12_takes 9 = .ok (.goto 4, 3) := by decide +kernel
theorem dX12_takes_12 : decode cX12_takes 12 = .ok (.iconst 0, 1) := by decide +kernel
theorem dX12_takes_13 : decode cX12_takes 13 = .ok (.istore_n 2, 1) := by decide +kernel
theorem dX12_takes_14 : decode cX12_takes 14 = .ok (.iload_n 2, 1) := by decide +kernel
theorem dX12_takes_15 : decode cX12_takes 15 = .ok (.ifCond .eq 7, 3) := by decide +kernel
theorem dX12_takes_18 : decode cX12_takes 18 = .ok (.aload_n 0, 1) := by decide +kernel
theorem dX12_takes_19 : decode cX12_takes 19 = .ok (.invokevirtual 145, 3) := by decide +kernel
theorem dX12_takes_22 : decode cX12_takes 22 = .ok (.iload_n 2, 1) := by decide +kernel
theorem dX12_takes_23 : decode cX12_takes 23 = .ok (.ireturn, 1) := by decide +kernel
theorem dX12_takesNumber_0 : decode cX12_takesNumber 0 = .ok (.aload_n 0, 1) := by decide +kernel
theorem dX12_takesNumber_1 : decode cX12_takesNumber 1 = .ok (.getfield 129, 3) := by decide +kernel
theorem dX12_takesNumber_4 : decode cX12_takesNumber 4 = .ok (.bipush 100, 2) := by decide +kernel
theorem dX12_takesNumber_6 : decode cX12_takesNumber 6 = .ok (.if_icmp .ne 18, 3) := by decide +kernel
theorem dX12_takesNumber_9 : decode cX12_takesNumber 9 = .ok (.aload_n 0, 1) := by decide +kernel
theorem dX12_takesNumber_10 : decode cX12_takesNumber 10 = .ok (.getfield 136, 3) := by decide +kernel
theorem dX12_takesNumber_13 : decode cX12_takesNumber 13 = .ok (.iload_n 1, 1) := by decide +kernel
theorem dX12_takesNumber_14 : decode cX12_takesNumber 14 = .ok (.if_icmp .gt 10, 3) := by decide +kernel
theorem dX12_takesNumber_17 : decode cX12_takesNumber 17 = .ok (.aload_n 0, 1) := by decide +kernel
theorem dX12_takesNumber_18 : decode cX12_takesNumber 18 = .ok (.getfield 136, 3) := by decide +kernel
theorem dX12_takesNumber_21 : decode cX12_takesNumber 21 = .ok (.goto 4, 3) := by decide +kernel
theorem dX12_takesNumber_24 : decode cX12_takesNumber 24 = .ok (.iconst (-1), 1) := by decide +kernel
theorem dX12_takesNumber_25 : decode cX12_takesNumber 25 = .ok (.istore_n 2, 1) := by decide +kernel
theorem dX12_takesNumber_26 : decode cX12_takesNumber 26 = .ok (.iload_n 2, 1) := by decide +kernel
theorem dX12_takesNumber_27 : decode cX12_takesNumber 27 = .ok (.ifCond .lt 7, 3) := by decide +kernel
theorem dX12_takesNumber_30 : decode cX12_takesNumber 30 = .ok (.aload_n 0, 1) := by decide +kernel
theorem dX12_takesNumber_31 : decode cX12_takesNumber 31 = .ok (.invokevirtual 145, 3) := by decide +kernel
theorem dX12_takesNumber_34 : decode cX12_takesNumber 34 = .ok (.iload_n 2, 1) := by decide +kernel
theorem dX12_takesNumber_35 : decode cX12_takesNumber 35 = .ok (.ireturn, 1) := by decide +kernel
theorem dX12_readsPlayer_0 : decode cX12_readsPlayer 0 = .ok (.aload_n 0, 1) := by decide +kernel
theorem dX12_readsPlayer_1 : decode cX12_readsPlayer 1 = .ok (.getfield 19, 3) := by decide +kernel
theorem dX12_readsPlayer_4 : decode cX12_readsPlayer 4 = .ok (.bipush 6, 2) := by decide +kernel
theorem dX12_readsPlayer_6 : decode cX12_readsPlayer 6 = .ok (.iaload, 1) := by decide +kernel
theorem dX12_readsPlayer_7 : decode cX12_readsPlayer 7 = .ok (.bipush 8, 2) := by decide +kernel
theorem dX12_readsPlayer_9 : decode cX12_readsPlayer 9 = .ok (.if_icmp .ne 5, 3) := by decide +kernel
theorem dX12_readsPlayer_12 : decode cX12_readsPlayer 12 = .ok (.iconst 0, 1) := by decide +kernel
theorem dX12_readsPlayer_13 : decode cX12_readsPlayer 13 = .ok (.ireturn, 1) := by decide +kernel
theorem dX12_readsPlayer_14 : decode cX12_readsPlayer 14 = .ok (.aload_n 0, 1) := by decide +kernel
theorem dX12_readsPlayer_15 : decode cX12_readsPlayer 15 = .ok (.invokevirtual 145, 3) := by decide +kernel
theorem dX12_readsPlayer_18 : decode cX12_readsPlayer 18 = .ok (.aload_n 0, 1) := by decide +kernel
theorem dX12_readsPlayer_19 : decode cX12_readsPlayer 19 = .ok (.bipush 11, 2) := by decide +kernel
theorem dX12_readsPlayer_21 : decode cX12_readsPlayer 21 = .ok (.invokevirtual 148, 3) := by decide +kernel
theorem dX12_readsPlayer_24 : decode cX12_readsPlayer 24 = .ok (.ifCond .ne 5, 3) := by decide +kernel
theorem dX12_readsPlayer_27 : decode cX12_readsPlayer 27 = .ok (.iconst 0, 1) := by decide +kernel
theorem dX12_readsPlayer_28 : decode cX12_readsPlayer 28 = .ok (.ireturn, 1) := by decide +kernel
theorem dX12_readsPlayer_29 : decode cX12_readsPlayer 29 = .ok (.aload_n 0, 1) := by decide +kernel
theorem dX12_readsPlayer_30 : decode cX12_readsPlayer 30 = .ok (.bipush 7, 2) := by decide +kernel
theorem dX12_readsPlayer_32 : decode cX12_readsPlayer 32 = .ok (.invokevirtual 151, 3) := by decide +kernel
theorem dX12_readsPlayer_35 : decode cX12_readsPlayer 35 = .ok (.istore_n 2, 1) := by decide +kernel
theorem dX12_readsPlayer_36 : decode cX12_readsPlayer 36 = .ok (.iload_n 2, 1) := by decide +kernel
theorem dX12_readsPlayer_37 : decode cX12_readsPlayer 37 = .ok (.ifCond .ge 5, 3) := by decide +kernel
theorem dX12_readsPlayer_40 : decode cX12_readsPlayer 40 = .ok (.iconst 0, 1) := by decide +kernel
theorem dX12_readsPlayer_41 : decode cX12_readsPlayer 41 = .ok (.ireturn, 1) := by decide +kernel
theorem dX12_readsPlayer_42 : decode cX12_readsPlayer 42 = .ok (.bipush 60, 2) := by decide +kernel
theorem dX12_readsPlayer_44 : decode cX12_readsPlayer 44 = .ok (.istore_n 3, 1) := by decide +kernel
theorem dX12_readsPlayer_45 : decode cX12_readsPlayer 45 = .ok (.aload_n 0, 1) := by decide +kernel
theorem dX12_readsPlayer_46 : decode cX12_readsPlayer 46 = .ok (.bipush 12, 2) := by decide +kernel
theorem dX12_readsPlayer_48 : decode cX12_readsPlayer 48 = .ok (.invokevirtual 148, 3) := by decide +kernel
theorem dX12_readsPlayer_51 : decode cX12_readsPlayer 51 = .ok (.ifCond .eq 10, 3) := by decide +kernel
theorem dX12_readsPlayer_54 : decode cX12_readsPlayer 54 = .ok (.aload_n 0, 1) := by decide +kernel
theorem dX12_readsPlayer_55 : decode cX12_readsPlayer 55 = .ok (.bipush 99, 2) := by decide +kernel
theorem dX12_readsPlayer_57 : decode cX12_readsPlayer 57 = .ok (.invokevirtual 151, 3) := by decide +kernel
theorem dX12_readsPlayer_60 : decode cX12_readsPlayer 60 = .ok (.istore_n 3, 1) := by decide +kernel
theorem dX12_readsPlayer_61 : decode cX12_readsPlayer 61 = .ok (.iconst 0, 1) := by decide +kernel
theorem dX12_readsPlayer_62 : decode cX12_readsPlayer 62 = .ok (.istore 4, 2) := by decide +kernel
theorem dX12_readsPlayer_64 : decode cX12_readsPlayer 64 = .ok (.iload_n 3, 1) := by decide +kernel
theorem dX12_readsPlayer_65 : decode cX12_readsPlayer 65 = .ok (.ifCond .lt 20, 3) := by decide +kernel
theorem dX12_readsPlayer_68 : decode cX12_readsPlayer 68 = .ok (.aload_n 0, 1) := by decide +kernel
theorem dX12_readsPlayer_69 : decode cX12_readsPlayer 69 = .ok (.bipush 13, 2) := by decide +kernel
theorem dX12_readsPlayer_71 : decode cX12_readsPlayer 71 = .ok (.invokevirtual 148, 3) := by decide +kernel
theorem dX12_readsPlayer_74 : decode cX12_readsPlayer 74 = .ok (.ifCond .eq 11, 3) := by decide +kernel
theorem dX12_readsPlayer_77 : decode cX12_readsPlayer 77 = .ok (.aload_n 0, 1) := by decide +kernel
theorem dX12_readsPlayer_78 : decode cX12_readsPlayer 78 = .ok (.bipush 9, 2) := by decide +kernel
theorem dX12_readsPlayer_80 : decode cX12_readsPlayer 80 = .ok (.invokevirtual 151, 3) := by decide +kernel
theorem dX12_readsPlayer_83 : decode cX12_readsPlayer 83 = .ok (.istore 4, 2) := by decide +kernel
theorem dX12_readsPlayer_85 : decode cX12_readsPlayer 85 = .ok (.bipush 16, 2) := by decide +kernel
theorem dX12_readsPlayer_87 : decode cX12_readsPlayer 87 = .ok (.bipush 11, 2) := by decide +kernel
theorem dX12_readsPlayer_89 : decode cX12_readsPlayer 89 = .ok (.aload_n 0, 1) := by decide +kernel
theorem dX12_readsPlayer_90 : decode cX12_readsPlayer 90 = .ok (.getfield 19, 3) := by decide +kernel
theorem dX12_readsPlayer_93 : decode cX12_readsPlayer 93 = .ok (.bipush 6, 2) := by decide +kernel
theorem dX12_readsPlayer_95 : decode cX12_readsPlayer 95 = .ok (.iaload, 1) := by decide +kernel
theorem dX12_readsPlayer_96 : decode cX12_readsPlayer 96 = .ok (.imul, 1) := by decide +kernel
theorem dX12_readsPlayer_97 : decode cX12_readsPlayer 97 = .ok (.iadd, 1) := by decide +kernel
theorem dX12_readsPlayer_98 : decode cX12_readsPlayer 98 = .ok (.istore 5, 2) := by decide +kernel
theorem dX12_readsPlayer_100 : decode cX12_readsPlayer 100 = .ok (.aload_n 0, 1) := by decide +kernel
theorem dX12_readsPlayer_101 : decode cX12_readsPlayer 101 = .ok (.getfield 19, 3) := by decide +kernel
theorem dX12_readsPlayer_104 : decode cX12_readsPlayer 104 = .ok (.iload 5, 2) := by decide +kernel
theorem dX12_readsPlayer_106 : decode cX12_readsPlayer 106 = .ok (.iload_n 1, 1) := by decide +kernel
theorem dX12_readsPlayer_107 : decode cX12_readsPlayer 107 = .ok (.iastore, 1) := by decide +kernel
theorem dX12_readsPlayer_108 : decode cX12_readsPlayer 108 = .ok (.aload_n 0, 1) := by decide +kernel
theorem dX12_readsPlayer_109 : decode cX12_readsPlayer 109 = .ok (.getfield 19, 3) := by decide +kernel
theorem dX12_readsPlayer_112 : decode cX12_readsPlayer 112 = .ok (.iload 5, 2) := by decide +kernel
theorem dX12_readsPlayer_114 : decode cX12_readsPlayer 114 = .ok (.iconst 1, 1) := by decide +kernel
theorem dX12_readsPlayer_115 : decode cX12_readsPlayer 115 = .ok (.iadd, 1) := by decide +kernel
theorem dX12_readsPlayer_116 : decode cX12_readsPlayer 116 = .ok (.iload_n 2, 1) := by decide +kernel
theorem dX12_readsPlayer_117 : decode cX12_readsPlayer 117 = .ok (.iastore, 1) := by decide +kernel
theorem dX12_readsPlayer_118 : decode cX12_readsPlayer 118 = .ok (.aload_n 0, 1) := by decide +kernel
theorem dX12_readsPlayer_119 : decode cX12_readsPlayer 119 = .ok (.getfield 19, 3) := by decide +kernel
theorem dX12_readsPlayer_122 : decode cX12_readsPlayer 122 = .ok (.iload 5, 2) := by decide +kernel
theorem dX12_readsPlayer_124 : decode cX12_readsPlayer 124 = .ok (.iconst 2, 1) := by decide +kernel
theorem dX12_readsPlayer_125 : decode cX12_readsPlayer 125 = .ok (.iadd, 1) := by decide +kernel
theorem dX12_readsPlayer_126 : decode cX12_readsPlayer 126 = .ok (.iload 4, 2) := by decide +kernel
theorem dX12_readsPlayer_128 : decode cX12_readsPlayer 128 = .ok (.iastore, 1) := by decide +kernel
theorem dX12_readsPlayer_129 : decode cX12_readsPlayer 129 = .ok (.aload_n 0, 1) := by decide +kernel
theorem dX12_readsPlayer_130 : decode cX12_readsPlayer 130 = .ok (.getfield 19, 3) := by decide +kernel
theorem dX12_readsPlayer_133 : decode cX12_readsPlayer 133 = .ok (.iload 5, 2) := by decide +kernel
theorem dX12_readsPlayer_135 : decode cX12_readsPlayer 135 = .ok (.iconst 3, 1) := by decide +kernel
theorem dX12_readsPlayer_136 : decode cX12_readsPlayer 136 = .ok (.iadd, 1) := by decide +kernel
theorem dX12_readsPlayer_137 : decode cX12_readsPlayer 137 = .ok (.iload_n 2, 1) := by decide +kernel
theorem dX12_readsPlayer_138 : decode cX12_readsPlayer 138 = .ok (.iadd, 1) := by decide +kernel
theorem dX12_readsPlayer_139 : decode cX12_readsPlayer 139 = .ok (.iload_n 3, 1) := by decide +kernel
theorem dX12_readsPlayer_140 : decode cX12_readsPlayer 140 = .ok (.iastore, 1) := by decide +kernel
theorem dX12_readsPlayer_141 : decode cX12_readsPlayer 141 = .ok (.aload_n 0, 1) := by decide +kernel
theorem dX12_readsPlayer_142 : decode cX12_readsPlayer 142 = .ok (.getfield 19, 3) := by decide +kernel
theorem dX12_readsPlayer_145 : decode cX12_readsPlayer 145 = .ok (.bipush 6, 2) := by decide +kernel
theorem dX12_readsPlayer_147 : decode cX12_readsPlayer 147 = .ok (.dup2, 1) := by decide +kernel
theorem dX12_readsPlayer_148 : decode cX12_readsPlayer 148 = .ok (.iaload, 1) := by decide +kernel
theorem dX12_readsPlayer_149 : decode cX12_readsPlayer 149 = .ok (.iconst 1, 1) := by decide +kernel
theorem dX12_readsPlayer_150 : decode cX12_readsPlayer 150 = .ok (.iadd, 1) := by decide +kernel
theorem dX12_readsPlayer_151 : decode cX12_readsPlayer 151 = .ok (.iastore, 1) := by decide +kernel
theorem dX12_readsPlayer_152 : decode cX12_readsPlayer 152 = .ok (.iload_n 3, 1) := by decide +kernel
theorem dX12_readsPlayer_153 : decode cX12_readsPlayer 153 = .ok (.ifCond .lt 12, 3) := by decide +kernel
theorem dX12_readsPlayer_156 : decode cX12_readsPlayer 156 = .ok (.iload 4, 2) := by decide +kernel
theorem dX12_readsPlayer_158 : decode cX12_readsPlayer 158 = .ok (.ifCond .lt 7, 3) := by decide +kernel
theorem dX12_readsPlayer_161 : decode cX12_readsPlayer 161 = .ok (.iconst 1, 1) := by decide +kernel
theorem dX12_readsPlayer_162 : decode cX12_readsPlayer 162 = .ok (.goto 4, 3) := by decide +kernel
theorem dX12_readsPlayer_165 : decode cX12_readsPlayer 165 = .ok (.iconst 0, 1) := by decide +kernel
theorem dX12_readsPlayer_166 : decode cX12_readsPlayer 166 = .ok (.ireturn, 1) := by decide +kernel
theorem dX12_readsWeight_0 : decode cX12_readsWeight 0 = .ok (.aload_n 0, 1) := by decide +kernel
theorem dX12_readsWeight_1 : decode cX12_readsWeight 1 = .ok (.invokevirtual 145, 3) := by decide +kernel
theorem dX12_readsWeight_4 : decode cX12_readsWeight 4 = .ok (.aload_n 0, 1) := by decide +kernel
theorem dX12_readsWeight_5 : decode cX12_readsWeight 5 = .ok (.bipush 7, 2) := by decide +kernel
theorem dX12_readsWeight_7 : decode cX12_readsWeight 7 = .ok (.invokevirtual 151, 3) := by decide +kernel
theorem dX12_readsWeight_10 : decode cX12_readsWeight 10 = .ok (.istore_n 1, 1) := by decide +kernel
theorem dX12_readsWeight_11 : decode cX12_readsWeight 11 = .ok (.iload_n 1, 1) := by decide +kernel
theorem dX12_readsWeight_12 : decode cX12_readsWeight 12 = .ok (.ifCond .ge 5, 3) := by decide +kernel
theorem dX12_readsWeight_15 : decode cX12_readsWeight 15 = .ok (.iconst 0, 1) := by decide +kernel
theorem dX12_readsWeight_16 : decode cX12_readsWeight 16 = .ok (.ireturn, 1) := by decide +kernel
theorem dX12_readsWeight_17 : decode cX12_readsWeight 17 = .ok (.aload_n 0, 1) := by decide +kernel
theorem dX12_readsWeight_18 : decode cX12_readsWeight 18 = .ok (.bipush 9, 2) := by decide +kernel
theorem dX12_readsWeight_20 : decode cX12_readsWeight 20 = .ok (.invokevirtual 151, 3) := by decide +kernel
theorem dX12_readsWeight_23 : decode cX12_readsWeight 23 = .ok (.istore_n 2, 1) := by decide +kernel
theorem dX12_readsWeight_24 : decode cX12_readsWeight 24 = .ok (.aload_n 0, 1) := by decide +kernel
theorem dX12_readsWeight_25 : decode cX12_readsWeight 25 = .ok (.getfield 19, 3) := by decide +kernel
theorem dX12_readsWeight_28 : decode cX12_readsWeight 28 = .ok (.bipush 8, 2) := by decide +kernel
theorem dX12_readsWeight_30 : decode cX12_readsWeight 30 = .ok (.iload_n 1, 1) := by decide +kernel
theorem dX12_readsWeight_31 : decode cX12_readsWeight 31 = .ok (.iadd, 1) := by decide +kernel
theorem dX12_readsWeight_32 : decode cX12_readsWeight 32 = .ok (.iload_n 2, 1) := by decide +kernel
theorem dX12_readsWeight_33 : decode cX12_readsWeight 33 = .ok (.iastore, 1) := by decide +kernel
theorem dX12_readsWeight_34 : decode cX12_readsWeight 34 = .ok (.iload_n 2, 1) := by decide +kernel
theorem dX12_readsWeight_35 : decode cX12_readsWeight 35 = .ok (.ifCond .lt 7, 3) := by decide +kernel
theorem dX12_readsWeight_38 : decode cX12_readsWeight 38 = .ok (.iconst 1, 1) := by decide +kernel
theorem dX12_readsWeight_39 : decode cX12_readsWeight 39 = .ok (.goto 4, 3) := by decide +kernel
theorem dX12_readsWeight_42 : decode cX12_readsWeight 42 = .ok (.iconst 0, 1) := by decide +kernel
theorem dX12_readsWeight_43 : decode cX12_readsWeight 43 = .ok (.ireturn, 1) := by decide +kernel
theorem dX12_readsLaw_0 : decode cX12_readsLaw 0 = .ok (.aload_n 0, 1) := by decide +kernel
theorem dX12_readsLaw_1 : decode cX12_readsLaw 1 = .ok (.invokevirtual 145, 3) := by decide +kernel
theorem dX12_readsLaw_4 : decode cX12_readsLaw 4 = .ok (.aload_n 0, 1) := by decide +kernel
theorem dX12_readsLaw_5 : decode cX12_readsLaw 5 = .ok (.iload_n 1, 1) := by decide +kernel
theorem dX12_readsLaw_6 : decode cX12_readsLaw 6 = .ok (.iconst 1, 1) := by decide +kernel
theorem dX12_readsLaw_7 : decode cX12_readsLaw 7 = .ok (.if_icmp .eq 8, 3) := by decide +kernel
theorem dX12_readsLaw_10 : decode cX12_readsLaw 10 = .ok (.iload_n 1, 1) := by decide +kernel
theorem dX12_readsLaw_11 : decode cX12_readsLaw 11 = .ok (.iconst 2, 1) := by decide +kernel
theorem dX12_readsLaw_12 : decode cX12_readsLaw 12 = .ok (.if_icmp .ne 8, 3) := by decide +kernel
theorem dX12_readsLaw_15 : decode cX12_readsLaw 15 = .ok (.bipush 9, 2) := by decide +kernel
theorem dX12_readsLaw_17 : decode cX12_readsLaw 17 = .ok (.goto 5, 3) := by decide +kernel
theorem dX12_readsLaw_20 : decode cX12_readsLaw 20 = .ok (.bipush 99, 2) := by decide +kernel
theorem dX12_readsLaw_22 : decode cX12_readsLaw 22 = .ok (.invokevirtual 151, 3) := by decide +kernel
theorem dX12_readsLaw_25 : decode cX12_readsLaw 25 = .ok (.istore_n 2, 1) := by decide +kernel
theorem dX12_readsLaw_26 : decode cX12_readsLaw 26 = .ok (.aload_n 0, 1) := by decide +kernel
theorem dX12_readsLaw_27 : decode cX12_readsLaw 27 = .ok (.getfield 19, 3) := by decide +kernel
theorem dX12_readsLaw_30 : decode cX12_readsLaw 30 = .ok (.iload_n 1, 1) := by decide +kernel
theorem dX12_readsLaw_31 : decode cX12_readsLaw 31 = .ok (.iload_n 2, 1) := by decide +kernel
theorem dX12_readsLaw_32 : decode cX12_readsLaw 32 = .ok (.iastore, 1) := by decide +kernel
theorem dX12_readsLaw_33 : decode cX12_readsLaw 33 = .ok (.iload_n 2, 1) := by decide +kernel
theorem dX12_readsLaw_34 : decode cX12_readsLaw 34 = .ok (.ifCond .lt 7, 3) := by decide +kernel
theorem dX12_readsLaw_37 : decode cX12_readsLaw 37 = .ok (.iconst 1, 1) := by decide +kernel
theorem dX12_readsLaw_38 : decode cX12_readsLaw 38 = .ok (.goto 4, 3) := by decide +kernel
theorem dX12_readsLaw_41 : decode cX12_readsLaw 41 = .ok (.iconst 0, 1) := by decide +kernel
theorem dX12_readsLaw_42 : decode cX12_readsLaw 42 = .ok (.ireturn, 1) := by decide +kernel
theorem dX12_readsOne_0 : decode cX12_readsOne 0 = .ok (.iconst 0, 1) := by decide +kernel
theorem dX12_readsOne_1 : decode cX12_readsOne 1 = .ok (.istore_n 1, 1) := by decide +kernel
theorem dX12_readsOne_2 : decode cX12_readsOne 2 = .ok (.aload_n 0, 1) := by decide +kernel
theorem dX12_readsOne_3 : decode cX12_readsOne 3 = .ok (.getfield 129, 3) := by decide +kernel
theorem dX12_readsOne_6 : decode cX12_readsOne 6 = .ok (.iconst 0, 1) := by decide +kernel
theorem dX12_readsOne_7 : decode cX12_readsOne 7 = .ok (.iconst 5, 1) := by decide +kernel
theorem dX12_readsOne_8 : decode cX12_readsOne 8 = .ok (.invokestatic 63, 3) := by decide +kernel
theorem dX12_readsOne_11 : decode cX12_readsOne 11 = .ok (.ifCond .eq 15, 3) := by decide +kernel
theorem dX12_readsOne_14 : decode cX12_readsOne 14 = .ok (.aload_n 0, 1) := by decide +kernel
theorem dX12_readsOne_15 : decode cX12_readsOne 15 = .ok (.aload_n 0, 1) := by decide +kernel
theorem dX12_readsOne_16 : decode cX12_readsOne 16 = .ok (.getfield 129, 3) := by decide +kernel
theorem dX12_readsOne_19 : decode cX12_readsOne 19 = .ok (.invokevirtual 154, 3) := by decide +kernel
theorem dX12_readsOne_22 : decode cX12_readsOne 22 = .ok (.istore_n 1, 1) := by decide +kernel
theorem dX12_readsOne_23 : decode cX12_readsOne 23 = .ok (.goto 48, 3) := by decide +kernel
theorem dX12_readsOne_26 : decode cX12_readsOne 26 = .ok (.aload_n 0, 1) := by decide +kernel
theorem dX12_readsOne_27 : decode cX12_readsOne 27 = .ok (.getfield 129, 3) := by decide +kernel
theorem dX12_readsOne_30 : decode cX12_readsOne 30 = .ok (.bipush 6, 2) := by decide +kernel
theorem dX12_readsOne_32 : decode cX12_readsOne 32 = .ok (.if_icmp .ne 11, 3) := by decide +kernel
theorem dX12_readsOne_35 : decode cX12_readsOne 35 = .ok (.aload_n 0, 1) := by decide +kernel
theorem dX12_readsOne_36 : decode cX12_readsOne 36 = .ok (.invokevirtual 157, 3) := by decide +kernel
theorem dX12_readsOne_39 : decode cX12_readsOne 39 = .ok (.istore_n 1, 1) := by decide +kernel
theorem dX12_readsOne_40 : decode cX12_readsOne 40 = .ok (.goto 31, 3) := by decide +kernel
theorem dX12_readsOne_43 : decode cX12_readsOne 43 = .ok (.aload_n 0, 1) := by decide +kernel
theorem dX12_readsOne_44 : decode cX12_readsOne 44 = .ok (.getfield 129, 3) := by decide +kernel
theorem dX12_readsOne_47 : decode cX12_readsOne 47 = .ok (.bipush 7, 2) := by decide +kernel
theorem dX12_readsOne_49 : decode cX12_readsOne 49 = .ok (.bipush 10, 2) := by decide +kernel
theorem dX12_readsOne_51 : decode cX12_readsOne 51 = .ok (.invokestatic 63, 3) := by decide +kernel
theorem dX12_readsOne_54 : decode cX12_readsOne 54 = .ok (.ifCond .eq 17, 3) := by decide +kernel
theorem dX12_readsOne_57 : decode cX12_readsOne 57 = .ok (.aload_n 0, 1) := by decide +kernel
theorem dX12_readsOne_58 : decode cX12_readsOne 58 = .ok (.aload_n 0, 1) := by decide +kernel
theorem dX12_readsOne_59 : decode cX12_readsOne 59 = .ok (.getfield 129, 3) := by decide +kernel
theorem dX12_readsOne_62 : decode cX12_readsOne 62 = .ok (.bipush 7, 2) := by decide +kernel
theorem dX12_readsOne_64 : decode cX12_readsOne 64 = .ok (.isub, 1) := by decide +kernel
theorem dX12_readsOne_65 : decode cX12_readsOne 65 = .ok (.iconst 1, 1) := by decide +kernel
theorem dX12_readsOne_66 : decode cX12_readsOne 66 = .ok (.iadd, 1) := by decide +kernel
theorem dX12_readsOne_67 : decode cX12_readsOne 67 = .ok (.invokevirtual 161, 3) := by decide +kernel
theorem dX12_readsOne_70 : decode cX12_readsOne 70 = .ok (.istore_n 1, 1) := by decide +kernel
theorem dX12_readsOne_71 : decode cX12_readsOne 71 = .ok (.iload_n 1, 1) := by decide +kernel
theorem dX12_readsOne_72 : decode cX12_readsOne 72 = .ok (.ifCond .eq 17, 3) := by decide +kernel
theorem dX12_readsOne_75 : decode cX12_readsOne 75 = .ok (.aload_n 0, 1) := by decide +kernel
theorem dX12_readsOne_76 : decode cX12_readsOne 76 = .ok (.sipush 259, 3) := by decide +kernel
theorem dX12_readsOne_79 : decode cX12_readsOne 79 = .ok (.invokevirtual 148, 3) := by decide +kernel
theorem dX12_readsOne_82 : decode cX12_readsOne 82 = .ok (.ifCond .eq 7, 3) := by decide +kernel
theorem dX12_readsOne_85 : decode cX12_readsOne 85 = .ok (.iconst 1, 1) := by decide +kernel
theorem dX12_readsOne_86 : decode cX12_readsOne 86 = .ok (.goto 4, 3) := by decide +kernel
theorem dX12_readsOne_89 : decode cX12_readsOne 89 = .ok (.iconst 0, 1) := by decide +kernel
theorem dX12_readsOne_90 : decode cX12_readsOne 90 = .ok (.ireturn, 1) := by decide +kernel
theorem dX12_feed_0 : decode cX12_feed 0 = .ok (.iload_n 3, 1) := by decide +kernel
theorem dX12_feed_1 : decode cX12_feed 1 = .ok (.iconst 1, 1) := by decide +kernel
theorem dX12_feed_2 : decode cX12_feed 2 = .ok (.bipush 8, 2) := by decide +kernel
theorem dX12_feed_4 : decode cX12_feed 4 = .ok (.invokestatic 63, 3) := by decide +kernel
theorem dX12_feed_7 : decode cX12_feed 7 = .ok (.ifCond .ne 5, 3) := by decide +kernel
theorem dX12_feed_10 : decode cX12_feed 10 = .ok (.iconst (-1), 1) := by decide +kernel
theorem dX12_feed_11 : decode cX12_feed 11 = .ok (.ireturn, 1) := by decide +kernel
theorem dX12_feed_12 : decode cX12_feed 12 = .ok (.aload_n 0, 1) := by decide +kernel
theorem dX12_feed_13 : decode cX12_feed 13 = .ok (.getfield 117, 3) := by decide +kernel
theorem dX12_feed_16 : decode cX12_feed 16 = .ok (.iload_n 3, 1) := by decide +kernel
theorem dX12_feed_17 : decode cX12_feed 17 = .ok (.iadd, 1) := by decide +kernel
theorem dX12_feed_18 : decode cX12_feed 18 = .ok (.sipush 200, 3) := by decide +kernel
theorem dX12_feed_21 : decode cX12_feed 21 = .ok (.if_icmp .le 6, 3) := by decide +kernel
theorem dX12_feed_24 : decode cX12_feed 24 = .ok (.bipush (-2), 2) := by decide +kernel
theorem dX12_feed_26 : decode cX12_feed 26 = .ok (.ireturn, 1) := by decide +kernel
theorem dX12_feed_27 : decode cX12_feed 27 = .ok (.iconst 0, 1) := by decide +kernel
theorem dX12_feed_28 : decode cX12_feed 28 = .ok (.istore 4, 2) := by decide +kernel
theorem dX12_feed_30 : decode cX12_feed 30 = .ok (.iload 4, 2) := by decide +kernel
theorem dX12_feed_32 : decode cX12_feed 32 = .ok (.iload_n 3, 1) := by decide +kernel
theorem dX12_feed_33 : decode cX12_feed 33 = .ok (.if_icmp .ge 40, 3) := by decide +kernel
theorem dX12_feed_36 : decode cX12_feed 36 = .ok (.aload_n 0, 1) := by decide +kernel
theorem dX12_feed_37 : decode cX12_feed 37 = .ok (.getfield 28, 3) := by decide +kernel
theorem dX12_feed_40 : decode cX12_feed 40 = .ok (.aload_n 0, 1) := by decide +kernel
theorem dX12_feed_41 : decode cX12_feed 41 = .ok (.getfield 117, 3) := by decide +kernel
theorem dX12_feed_44 : decode cX12_feed 44 = .ok (.lload_n 1, 1) := by decide +kernel
theorem dX12_feed_45 : decode cX12_feed 45 = .ok (.bipush 8, 2) := by decide +kernel
theorem dX12_feed_47 : decode cX12_feed 47 = .ok (.iload 4, 2) := by decide +kernel
theorem dX12_feed_49 : decode cX12_feed 49 = .ok (.imul, 1) := by decide +kernel
theorem dX12_feed_50 : decode cX12_feed 50 = .ok (.lshr, 1) := by decide +kernel
theorem dX12_feed_51 : decode cX12_feed 51 = .ok (.ldc2_w 164, 3) := by decide +kernel
theorem dX12_feed_54 : decode cX12_feed 54 = .ok (.land, 1) := by decide +kernel
theorem dX12_feed_55 : decode cX12_feed 55 = .ok (.l2i, 1) := by decide +kernel
theorem dX12_feed_56 : decode cX12_feed 56 = .ok (.iastore, 1) := by decide +kernel
theorem dX12_feed_57 : decode cX12_feed 57 = .ok (.aload_n 0, 1) := by decide +kernel
theorem dX12_feed_58 : decode cX12_feed 58 = .ok (.dup, 1) := by decide +kernel
theorem dX12_feed_59 : decode cX12_feed 59 = .ok (.getfield 117, 3) := by decide +kernel
theorem dX12_feed_62 : decode cX12_feed 62 = .ok (.iconst 1, 1) := by decide +kernel
theorem dX12_feed_63 : decode cX12_feed 63 = .ok (.iadd, 1) := by decide +kernel
theorem dX12_feed_64 : decode cX12_feed 64 = .ok (.putfield 117, 3) := by decide +kernel
theorem dX12_feed_67 : decode cX12_feed 67 = .ok (.iinc 4 1, 3) := by decide +kernel
theorem dX12_feed_70 : decode cX12_feed 70 = .ok (.goto (-40), 3) := by decide +kernel
theorem dX12_feed_73 : decode cX12_feed 73 = .ok (.aload_n 0, 1) := by decide +kernel
theorem dX12_feed_74 : decode cX12_feed 74 = .ok (.getfield 117, 3) := by decide +kernel
theorem dX12_feed_77 : decode cX12_feed 77 = .ok (.ireturn, 1) := by decide +kernel
theorem dX12_company_0 : decode cX12_company 0 = .ok (.aload_n 0, 1) := by decide +kernel
theorem dX12_company_1 : decode cX12_company 1 = .ok (.iconst 0, 1) := by decide +kernel
theorem dX12_company_2 : decode cX12_company 2 = .ok (.putfield 120, 3) := by decide +kernel
theorem dX12_company_5 : decode cX12_company 5 = .ok (.aload_n 0, 1) := by decide +kernel
theorem dX12_company_6 : decode cX12_company 6 = .ok (.getfield 19, 3) := by decide +kernel
theorem dX12_company_9 : decode cX12_company 9 = .ok (.invokestatic 59, 3) := by decide +kernel
theorem dX12_company_12 : decode cX12_company 12 = .ok (.aload_n 0, 1) := by decide +kernel
theorem dX12_company_13 : decode cX12_company 13 = .ok (.getfield 19, 3) := by decide +kernel
theorem dX12_company_16 : decode cX12_company 16 = .ok (.iconst 5, 1) := by decide +kernel
theorem dX12_company_17 : decode cX12_company 17 = .ok (.aload_n 0, 1) := by decide +kernel
theorem dX12_company_18 : decode cX12_company 18 = .ok (.getfield 9, 3) := by decide +kernel
theorem dX12_company_21 : decode cX12_company 21 = .ok (.iconst 5, 1) := by decide +kernel
theorem dX12_company_22 : decode cX12_company 22 = .ok (.iaload, 1) := by decide +kernel
theorem dX12_company_23 : decode cX12_company 23 = .ok (.iastore, 1) := by decide +kernel
theorem dX12_company_24 : decode cX12_company 24 = .ok (.aload_n 0, 1) := by decide +kernel
theorem dX12_company_25 : decode cX12_company 25 = .ok (.invokevirtual 145, 3) := by decide +kernel
theorem dX12_company_28 : decode cX12_company 28 = .ok (.iconst 1, 1) := by decide +kernel
theorem dX12_company_29 : decode cX12_company 29 = .ok (.istore_n 1, 1) := by decide +kernel
theorem dX12_company_30 : decode cX12_company 30 = .ok (.iload_n 1, 1) := by decide +kernel
theorem dX12_company_31 : decode cX12_company 31 = .ok (.ifCond .eq 19, 3) := by decide +kernel
theorem dX12_company_34 : decode cX12_company 34 = .ok (.aload_n 0, 1) := by decide +kernel
theorem dX12_company_35 : decode cX12_company 35 = .ok (.getfield 129, 3) := by decide +kernel
theorem dX12_company_38 : decode cX12_company 38 = .ok (.iconst (-1), 1) := by decide +kernel
theorem dX12_company_39 : decode cX12_company 39 = .ok (.if_icmp .eq 11, 3) := by decide +kernel
theorem dX12_company_42 : decode cX12_company 42 = .ok (.aload_n 0, 1) := by decide +kernel
theorem dX12_company_43 : decode cX12_company 43 = .ok (.invokevirtual 166, 3) := by decide +kernel
theorem dX12_company_46 : decode cX12_company 46 = .ok (.istore_n 1, 1) := by decide +kernel
theorem dX12_company_47 : decode cX12_company 47 = .ok (.goto (-17), 3) := by decide +kernel
theorem dX12_company_50 : decode cX12_company 50 = .ok (.aload_n 0, 1) := by decide +kernel
theorem dX12_company_51 : decode cX12_company 51 = .ok (.iconst 0, 1) := by decide +kernel
theorem dX12_company_52 : decode cX12_company 52 = .ok (.putfield 117, 3) := by decide +kernel
theorem dX12_company_55 : decode cX12_company 55 = .ok (.iload_n 1, 1) := by decide +kernel
theorem dX12_company_56 : decode cX12_company 56 = .ok (.ifCond .ne 11, 3) := by decide +kernel
theorem dX12_company_59 : decode cX12_company 59 = .ok (.bipush (-100), 2) := by decide +kernel
theorem dX12_company_61 : decode cX12_company 61 = .ok (.aload_n 0, 1) := by decide +kernel
theorem dX12_company_62 : decode cX12_company 62 = .ok (.getfield 123, 3) := by decide +kernel
theorem dX12_company_65 : decode cX12_company 65 = .ok (.isub, 1) := by decide +kernel
theorem dX12_company_66 : decode cX12_company 66 = .ok (.ireturn, 1) := by decide +kernel
theorem dX12_company_67 : decode cX12_company 67 = .ok (.aload_n 0, 1) := by decide +kernel
theorem dX12_company_68 : decode cX12_company 68 = .ok (.getfield 19, 3) := by decide +kernel
theorem dX12_company_71 : decode cX12_company 71 = .ok (.aload_n 0, 1) := by decide +kernel
theorem dX12_company_72 : decode cX12_company 72 = .ok (.getfield 9, 3) := by decide +kernel
theorem dX12_company_75 : decode cX12_company 75 = .ok (.invokestatic 169, 3) := by decide +kernel
theorem dX12_company_78 : decode cX12_company 78 = .ok (.aload_n 0, 1) := by decide +kernel
theorem dX12_company_79 : decode cX12_company 79 = .ok (.iconst 0, 1) := by decide +kernel
theorem dX12_company_80 : decode cX12_company 80 = .ok (.putfield 173, 3) := by decide +kernel
theorem dX12_company_83 : decode cX12_company 83 = .ok (.aload_n 0, 1) := by decide +kernel
theorem dX12_company_84 : decode cX12_company 84 = .ok (.getfield 9, 3) := by decide +kernel
theorem dX12_company_87 : decode cX12_company 87 = .ok (.bipush 6, 2) := by decide +kernel
theorem dX12_company_89 : decode cX12_company 89 = .ok (.iaload, 1) := by decide +kernel
theorem dX12_company_90 : decode cX12_company 90 = .ok (.ireturn, 1) := by decide +kernel
theorem dX12_isLaw_0 : decode cX12_isLaw 0 = .ok (.iload_n 0, 1) := by decide +kernel
theorem dX12_isLaw_1 : decode cX12_isLaw 1 = .ok (.iconst 0, 1) := by decide +kernel
theorem dX12_isLaw_2 : decode cX12_isLaw 2 = .ok (.iconst 3, 1) := by decide +kernel
theorem dX12_isLaw_3 : decode cX12_isLaw 3 = .ok (.invokestatic 63, 3) := by decide +kernel
theorem dX12_isLaw_6 : decode cX12_isLaw 6 = .ok (.ireturn, 1) := by decide +kernel
theorem dX12_set_0 : decode cX12_set 0 = .ok (.iload_n 1, 1) := by decide +kernel
theorem dX12_set_1 : decode cX12_set 1 = .ok (.invokestatic 176, 3) := by decide +kernel
theorem dX12_set_4 : decode cX12_set 4 = .ok (.ifCond .eq 34, 3) := by decide +kernel
theorem dX12_set_7 : decode cX12_set 7 = .ok (.iload_n 2, 1) := by decide +kernel
theorem dX12_set_8 : decode cX12_set 8 = .ok (.iconst 0, 1) := by decide +kernel
theorem dX12_set_9 : decode cX12_set 9 = .ok (.iload_n 1, 1) := by decide +kernel
theorem dX12_set_10 : decode cX12_set 10 = .ok (.iconst 2, 1) := by decide +kernel
theorem dX12_set_11 : decode cX12_set 11 = .ok (.if_icmp .ge 8, 3) := by decide +kernel
theorem dX12_set_14 : decode cX12_set 14 = .ok (.bipush 9, 2) := by decide +kernel
theorem dX12_set_16 : decode cX12_set 16 = .ok (.goto 5, 3) := by decide +kernel
theorem dX12_set_19 : decode cX12_set 19 = .ok (.bipush 99, 2) := by decide +kernel
theorem dX12_set_21 : decode cX12_set 21 = .ok (.invokestatic 63, 3) := by decide +kernel
theorem dX12_set_24 : decode cX12_set 24 = .ok (.ifCond .eq 14, 3) := by decide +kernel
theorem dX12_set_27 : decode cX12_set 27 = .ok (.aload_n 0, 1) := by decide +kernel
theorem dX12_set_28 : decode cX12_set 28 = .ok (.iconst 1, 1) := by decide +kernel
theorem dX12_set_29 : decode cX12_set 29 = .ok (.iload_n 1, 1) := by decide +kernel
theorem dX12_set_30 : decode cX12_set 30 = .ok (.iadd, 1) := by decide +kernel
theorem dX12_set_31 : decode cX12_set 31 = .ok (.iload_n 2, 1) := by decide +kernel
theorem dX12_set_32 : decode cX12_set 32 = .ok (.invokevirtual 179, 3) := by decide +kernel
theorem dX12_set_35 : decode cX12_set 35 = .ok (.goto 4, 3) := by decide +kernel
theorem dX12_set_38 : decode cX12_set 38 = .ok (.iconst (-1), 1) := by decide +kernel
theorem dX12_set_39 : decode cX12_set 39 = .ok (.ireturn, 1) := by decide +kernel
theorem dX12_lawOf_0 : decode cX12_lawOf 0 = .ok (.iload_n 1, 1) := by decide +kernel
theorem dX12_lawOf_1 : decode cX12_lawOf 1 = .ok (.invokestatic 176, 3) := by decide +kernel
theorem dX12_lawOf_4 : decode cX12_lawOf 4 = .ok (.ifCond .eq 14, 3) := by decide +kernel
theorem dX12_lawOf_7 : decode cX12_lawOf 7 = .ok (.aload_n 0, 1) := by decide +kernel
theorem dX12_lawOf_8 : decode cX12_lawOf 8 = .ok (.getfield 9, 3) := by decide +kernel
theorem dX12_lawOf_11 : decode cX12_lawOf 11 = .ok (.iconst 1, 1) := by decide +kernel
theorem dX12_lawOf_12 : decode cX12_lawOf 12 = .ok (.iload_n 1, 1) := by decide +kernel
theorem dX12_lawOf_13 : decode cX12_lawOf 13 = .ok (.iadd, 1) := by decide +kernel
theorem dX12_lawOf_14 : decode cX12_lawOf 14 = .ok (.iaload, 1) := by decide +kernel
theorem dX12_lawOf_15 : decode cX12_lawOf 15 = .ok (.goto 4, 3) := by decide +kernel
theorem dX12_lawOf_18 : decode cX12_lawOf 18 = .ok (.iconst (-1), 1) := by decide +kernel
theorem dX12_lawOf_19 : decode cX12_lawOf 19 = .ok (.ireturn, 1) := by decide +kernel
theorem dX12_weigh_0 : decode cX12_weigh 0 = .ok (.iload_n 1, 1) := by decide +kernel
theorem dX12_weigh_1 : decode cX12_weigh 1 = .ok (.invokestatic 182, 3) := by decide +kernel
theorem dX12_weigh_4 : decode cX12_weigh 4 = .ok (.ifCond .eq 25, 3) := by decide +kernel
theorem dX12_weigh_7 : decode cX12_weigh 7 = .ok (.iload_n 2, 1) := by decide +kernel
theorem dX12_weigh_8 : decode cX12_weigh 8 = .ok (.iconst 0, 1) := by decide +kernel
theorem dX12_weigh_9 : decode cX12_weigh 9 = .ok (.bipush 9, 2) := by decide +kernel
theorem dX12_weigh_11 : decode cX12_weigh 11 = .ok (.invokestatic 63, 3) := by decide +kernel
theorem dX12_weigh_14 : decode cX12_weigh 14 = .ok (.ifCond .eq 15, 3) := by decide +kernel
theorem dX12_weigh_17 : decode cX12_weigh 17 = .ok (.aload_n 0, 1) := by decide +kernel
theorem dX12_weigh_18 : decode cX12_weigh 18 = .ok (.bipush 8, 2) := by decide +kernel
theorem dX12_weigh_20 : decode cX12_weigh 20 = .ok (.iload_n 1, 1) := by decide +kernel
theorem dX12_weigh_21 : decode cX12_weigh 21 = .ok (.iadd, 1) := by decide +kernel
theorem dX12_weigh_22 : decode cX12_weigh 22 = .ok (.iload_n 2, 1) := by decide +kernel
theorem dX12_weigh_23 : decode cX12_weigh 23 = .ok (.invokevirtual 179, 3) := by decide +kernel
theorem dX12_weigh_26 : decode cX12_weigh 26 = .ok (.goto 4, 3) := by decide +kernel
theorem dX12_weigh_29 : decode cX12_weigh 29 = .ok (.iconst (-1), 1) := by decide +kernel
theorem dX12_weigh_30 : decode cX12_weigh 30 = .ok (.ireturn, 1) := by decide +kernel
theorem dX12_ownersOf_0 : decode cX12_ownersOf 0 = .ok (.iconst 0, 1) := by decide +kernel
theorem dX12_ownersOf_1 : decode cX12_ownersOf 1 = .ok (.istore_n 2, 1) := by decide +kernel
theorem dX12_ownersOf_2 : decode cX12_ownersOf 2 = .ok (.iconst 0, 1) := by decide +kernel
theorem dX12_ownersOf_3 : decode cX12_ownersOf 3 = .ok (.istore_n 3, 1) := by decide +kernel
theorem dX12_ownersOf_4 : decode cX12_ownersOf 4 = .ok (.iload_n 3, 1) := by decide +kernel
theorem dX12_ownersOf_5 : decode cX12_ownersOf 5 = .ok (.aload_n 0, 1) := by decide +kernel
theorem dX12_ownersOf_6 : decode cX12_ownersOf 6 = .ok (.getfield 9, 3) := by decide +kernel
theorem dX12_ownersOf_9 : decode cX12_ownersOf 9 = .ok (.bipush 6, 2) := by decide +kernel
theorem dX12_ownersOf_11 : decode cX12_ownersOf 11 = .ok (.iaload, 1) := by decide +kernel
theorem dX12_ownersOf_12 : decode cX12_ownersOf 12 = .ok (.if_icmp .ge 29, 3) := by decide +kernel
theorem dX12_ownersOf_15 : decode cX12_ownersOf 15 = .ok (.iload_n 2, 1) := by decide +kernel
theorem dX12_ownersOf_16 : decode cX12_ownersOf 16 = .ok (.aload_n 0, 1) := by decide +kernel
theorem dX12_ownersOf_17 : decode cX12_ownersOf 17 = .ok (.iload_n 3, 1) := by decide +kernel
theorem dX12_ownersOf_18 : decode cX12_ownersOf 18 = .ok (.iconst 1, 1) := by decide +kernel
theorem dX12_ownersOf_19 : decode cX12_ownersOf 19 = .ok (.invokevirtual 67, 3) := by decide +kernel
theorem dX12_ownersOf_22 : decode cX12_ownersOf 22 = .ok (.iload_n 1, 1) := by decide +kernel
theorem dX12_ownersOf_23 : decode cX12_ownersOf 23 = .ok (.if_icmp .ne 9, 3) := by decide +kernel
theorem dX12_ownersOf_26 : decode cX12_ownersOf 26 = .ok (.iconst 1, 1) := by decide +kernel
theorem dX12_ownersOf_27 : decode cX12_ownersOf 27 = .ok (.iload_n 3, 1) := by decide +kernel
theorem dX12_ownersOf_28 : decode cX12_ownersOf 28 = .ok (.ishl, 1) := by decide +kernel
theorem dX12_ownersOf_29 : decode cX12_ownersOf 29 = .ok (.goto 4, 3) := by decide +kernel
theorem dX12_ownersOf_32 : decode cX12_ownersOf 32 = .ok (.iconst 0, 1) := by decide +kernel
theorem dX12_ownersOf_33 : decode cX12_ownersOf 33 = .ok (.ior, 1) := by decide +kernel
theorem dX12_ownersOf_34 : decode cX12_ownersOf 34 = .ok (.istore_n 2, 1) := by decide +kernel
theorem dX12_ownersOf_35 : decode cX12_ownersOf 35 = .ok (.iinc 3 1, 3) := by decide +kernel
theorem dX12_ownersOf_38 : decode cX12_ownersOf 38 = .ok (.goto (-34), 3) := by decide +kernel
theorem dX12_ownersOf_41 : decode cX12_ownersOf 41 = .ok (.iload_n 2, 1) := by decide +kernel
theorem dX12_ownersOf_42 : decode cX12_ownersOf 42 = .ok (.ireturn, 1) := by decide +kernel
theorem dX12_partOf_0 : decode cX12_partOf 0 = .ok (.iload_n 1, 1) := by decide +kernel
theorem dX12_partOf_1 : decode cX12_partOf 1 = .ok (.invokestatic 182, 3) := by decide +kernel
theorem dX12_partOf_4 : decode cX12_partOf 4 = .ok (.ifCond .eq 12, 3) := by decide +kernel
theorem dX12_partOf_7 : decode cX12_partOf 7 = .ok (.iload_n 2, 1) := by decide +kernel
theorem dX12_partOf_8 : decode cX12_partOf 8 = .ok (.iconst 0, 1) := by decide +kernel
theorem dX12_partOf_9 : decode cX12_partOf 9 = .ok (.iconst 2, 1) := by decide +kernel
theorem dX12_partOf_10 : decode cX12_partOf 10 = .ok (.invokestatic 63, 3) := by decide +kernel
theorem dX12_partOf_13 : decode cX12_partOf 13 = .ok (.ifCond .ne 5, 3) := by decide +kernel
theorem dX12_partOf_16 : decode cX12_partOf 16 = .ok (.iconst (-1), 1) := by decide +kernel
theorem dX12_partOf_17 : decode cX12_partOf 17 = .ok (.ireturn, 1) := by decide +kernel
theorem dX12_partOf_18 : decode cX12_partOf 18 = .ok (.aload_n 0, 1) := by decide +kernel
theorem dX12_partOf_19 : decode cX12_partOf 19 = .ok (.invokevirtual 78, 3) := by decide +kernel
theorem dX12_partOf_22 : decode cX12_partOf 22 = .ok (.iload_n 2, 1) := by decide +kernel
theorem dX12_partOf_23 : decode cX12_partOf 23 = .ok (.ifCond .ne 15, 3) := by decide +kernel
theorem dX12_partOf_26 : decode cX12_partOf 26 = .ok (.aload_n 0, 1) := by decide +kernel
theorem dX12_partOf_27 : decode cX12_partOf 27 = .ok (.getfield 9, 3) := by decide +kernel
theorem dX12_partOf_30 : decode cX12_partOf 30 = .ok (.bipush 8, 2) := by decide +kernel
theorem dX12_partOf_32 : decode cX12_partOf 32 = .ok (.iload_n 1, 1) := by decide +kernel
theorem dX12_partOf_33 : decode cX12_partOf 33 = .ok (.iadd, 1) := by decide +kernel
theorem dX12_partOf_34 : decode cX12_partOf 34 = .ok (.iaload, 1) := by decide +kernel
theorem dX12_partOf_35 : decode cX12_partOf 35 = .ok (.goto 24, 3) := by decide +kernel
theorem dX12_partOf_38 : decode cX12_partOf 38 = .ok (.iload_n 2, 1) := by decide +kernel
theorem dX12_partOf_39 : decode cX12_partOf 39 = .ok (.iconst 1, 1) := by decide +kernel
theorem dX12_partOf_40 : decode cX12_partOf 40 = .ok (.if_icmp .ne 14, 3) := by decide +kernel
theorem dX12_partOf_43 : decode cX12_partOf 43 = .ok (.aload_n 0, 1) := by decide +kernel
theorem dX12_partOf_44 : decode cX12_partOf 44 = .ok (.getfield 22, 3) := by decide +kernel
theorem dX12_partOf_47 : decode cX12_partOf 47 = .ok (.iload_n 1, 1) := by decide +kernel
theorem dX12_partOf_48 : decode cX12_partOf 48 = .ok (.iaload, 1) := by decide +kernel
theorem dX12_partOf_49 : decode cX12_partOf 49 = .ok (.iconst 1, 1) := by decide +kernel
theorem dX12_partOf_50 : decode cX12_partOf 50 = .ok (.iadd, 1) := by decide +kernel
theorem dX12_partOf_51 : decode cX12_partOf 51 = .ok (.goto 8, 3) := by decide +kernel
theorem dX12_partOf_54 : decode cX12_partOf 54 = .ok (.aload_n 0, 1) := by decide +kernel
theorem dX12_partOf_55 : decode cX12_partOf 55 = .ok (.iload_n 1, 1) := by decide +kernel
theorem dX12_partOf_56 : decode cX12_partOf 56 = .ok (.invokevirtual 185, 3) := by decide +kernel
theorem dX12_partOf_59 : decode cX12_partOf 59 = .ok (.ireturn, 1) := by decide +kernel
theorem dX12_player_0 : decode cX12_player 0 = .ok (.iload_n 1, 1) := by decide +kernel
theorem dX12_player_1 : decode cX12_player 1 = .ok (.iconst 0, 1) := by decide +kernel
theorem dX12_player_2 : decode cX12_player 2 = .ok (.iconst 5, 1) := by decide +kernel
theorem dX12_player_3 : decode cX12_player 3 = .ok (.invokestatic 63, 3) := by decide +kernel
theorem dX12_player_6 : decode cX12_player 6 = .ok (.ifCond .eq 10, 3) := by decide +kernel
theorem dX12_player_9 : decode cX12_player 9 = .ok (.iload_n 2, 1) := by decide +kernel
theorem dX12_player_10 : decode cX12_player 10 = .ok (.invokestatic 182, 3) := by decide +kernel
theorem dX12_player_13 : decode cX12_player 13 = .ok (.ifCond .ne 5, 3) := by decide +kernel
theorem dX12_player_16 : decode cX12_player 16 = .ok (.iconst (-1), 1) := by decide +kernel
theorem dX12_player_17 : decode cX12_player 17 = .ok (.ireturn, 1) := by decide +kernel
theorem dX12_player_18 : decode cX12_player 18 = .ok (.aload_n 0, 1) := by decide +kernel
theorem dX12_player_19 : decode cX12_player 19 = .ok (.getfield 9, 3) := by decide +kernel
theorem dX12_player_22 : decode cX12_player 22 = .ok (.bipush 6, 2) := by decide +kernel
theorem dX12_player_24 : decode cX12_player 24 = .ok (.iaload, 1) := by decide +kernel
theorem dX12_player_25 : decode cX12_player 25 = .ok (.bipush 8, 2) := by decide +kernel
theorem dX12_player_27 : decode cX12_player 27 = .ok (.if_icmp .ne 6, 3) := by decide +kernel
theorem dX12_player_30 : decode cX12_player 30 = .ok (.bipush (-2), 2) := by decide +kernel
theorem dX12_player_32 : decode cX12_player 32 = .ok (.ireturn, 1) := by decide +kernel
theorem dX12_player_33 : decode cX12_player 33 = .ok (.aload_n 0, 1) := by decide +kernel
theorem dX12_player_34 : decode cX12_player 34 = .ok (.getfield 9, 3) := by decide +kernel
theorem dX12_player_37 : decode cX12_player 37 = .ok (.bipush 6, 2) := by decide +kernel
theorem dX12_player_39 : decode cX12_player 39 = .ok (.iaload, 1) := by decide +kernel
theorem dX12_player_40 : decode cX12_player 40 = .ok (.istore_n 3, 1) := by decide +kernel
theorem dX12_player_41 : decode cX12_player 41 = .ok (.iconst 0, 1) := by decide +kernel
theorem dX12_player_42 : decode cX12_player 42 = .ok (.istore 4, 2) := by decide +kernel
theorem dX12_player_44 : decode cX12_player 44 = .ok (.iload 4, 2) := by decide +kernel
theorem dX12_player_46 : decode cX12_player 46 = .ok (.bipush 11, 2) := by decide +kernel
theorem dX12_player_48 : decode cX12_player 48 = .ok (.if_icmp .ge 17, 3) := by decide +kernel
theorem dX12_player_51 : decode cX12_player 51 = .ok (.aload_n 0, 1) := by decide +kernel
theorem dX12_player_52 : decode cX12_player 52 = .ok (.iload_n 3, 1) := by decide +kernel
theorem dX12_player_53 : decode cX12_player 53 = .ok (.iload 4, 2) := by decide +kernel
theorem dX12_player_55 : decode cX12_player 55 = .ok (.iconst 0, 1) := by decide +kernel
theorem dX12_player_56 : decode cX12_player 56 = .ok (.invokevirtual 88, 3) := by decide +kernel
theorem dX12_player_59 : decode cX12_player 59 = .ok (.iinc 4 1, 3) := by decide +kernel
theorem dX12_player_62 : decode cX12_player 62 = .ok (.goto (-18), 3) := by decide +kernel
theorem dX12_player_65 : decode cX12_player 65 = .ok (.aload_n 0, 1) := by decide +kernel
theorem dX12_player_66 : decode cX12_player 66 = .ok (.iload_n 3, 1) := by decide +kernel
theorem dX12_player_67 : decode cX12_player 67 = .ok (.iconst 0, 1) := by decide +kernel
theorem dX12_player_68 : decode cX12_player 68 = .ok (.iload_n 1, 1) := by decide +kernel
theorem dX12_player_69 : decode cX12_player 69 = .ok (.invokevirtual 88, 3) := by decide +kernel
theorem dX12_player_72 : decode cX12_player 72 = .ok (.aload_n 0, 1) := by decide +kernel
theorem dX12_player_73 : decode cX12_player 73 = .ok (.iload_n 3, 1) := by decide +kernel
theorem dX12_player_74 : decode cX12_player 74 = .ok (.iconst 1, 1) := by decide +kernel
theorem dX12_player_75 : decode cX12_player 75 = .ok (.iload_n 2, 1) := by decide +kernel
theorem dX12_player_76 : decode cX12_player 76 = .ok (.invokevirtual 88, 3) := by decide +kernel
theorem dX12_player_79 : decode cX12_player 79 = .ok (.aload_n 0, 1) := by decide +kernel
theorem dX12_player_80 : decode cX12_player 80 = .ok (.iload_n 3, 1) := by decide +kernel
theorem dX12_player_81 : decode cX12_player 81 = .ok (.iconst 3, 1) := by decide +kernel
theorem dX12_player_82 : decode cX12_player 82 = .ok (.iload_n 2, 1) := by decide +kernel
theorem dX12_player_83 : decode cX12_player 83 = .ok (.iadd, 1) := by decide +kernel
theorem dX12_player_84 : decode cX12_player 84 = .ok (.bipush 60, 2) := by decide +kernel
theorem dX12_player_86 : decode cX12_player 86 = .ok (.invokevirtual 88, 3) := by decide +kernel
theorem dX12_player_89 : decode cX12_player 89 = .ok (.aload_n 0, 1) := by decide +kernel
theorem dX12_player_90 : decode cX12_player 90 = .ok (.getfield 9, 3) := by decide +kernel
theorem dX12_player_93 : decode cX12_player 93 = .ok (.bipush 6, 2) := by decide +kernel
theorem dX12_player_95 : decode cX12_player 95 = .ok (.dup2, 1) := by decide +kernel
theorem dX12_player_96 : decode cX12_player 96 = .ok (.iaload, 1) := by decide +kernel
theorem dX12_player_97 : decode cX12_player 97 = .ok (.iconst 1, 1) := by decide +kernel
theorem dX12_player_98 : decode cX12_player 98 = .ok (.iadd, 1) := by decide +kernel
theorem dX12_player_99 : decode cX12_player 99 = .ok (.iastore, 1) := by decide +kernel
theorem dX12_player_100 : decode cX12_player 100 = .ok (.iload_n 3, 1) := by decide +kernel
theorem dX12_player_101 : decode cX12_player 101 = .ok (.ireturn, 1) := by decide +kernel
theorem dX12_of_0 : decode cX12_of 0 = .ok (.aload_n 0, 1) := by decide +kernel
theorem dX12_of_1 : decode cX12_of 1 = .ok (.iload_n 1, 1) := by decide +kernel
theorem dX12_of_2 : decode cX12_of 2 = .ok (.invokevirtual 188, 3) := by decide +kernel
theorem dX12_of_5 : decode cX12_of 5 = .ok (.ifCond .eq 12, 3) := by decide +kernel
theorem dX12_of_8 : decode cX12_of 8 = .ok (.iload_n 2, 1) := by decide +kernel
theorem dX12_of_9 : decode cX12_of 9 = .ok (.iconst 0, 1) := by decide +kernel
theorem dX12_of_10 : decode cX12_of 10 = .ok (.iconst 3, 1) := by decide +kernel
theorem dX12_of_11 : decode cX12_of 11 = .ok (.invokestatic 63, 3) := by decide +kernel
theorem dX12_of_14 : decode cX12_of 14 = .ok (.ifCond .ne 5, 3) := by decide +kernel
theorem dX12_of_17 : decode cX12_of 17 = .ok (.iconst (-1), 1) := by decide +kernel
theorem dX12_of_18 : decode cX12_of 18 = .ok (.ireturn, 1) := by decide +kernel
theorem dX12_of_19 : decode cX12_of 19 = .ok (.aload_n 0, 1) := by decide +kernel
theorem dX12_of_20 : decode cX12_of 20 = .ok (.invokevirtual 78, 3) := by decide +kernel
theorem dX12_of_23 : decode cX12_of 23 = .ok (.iload_n 2, 1) := by decide +kernel
theorem dX12_of_24 : decode cX12_of 24 = .ok (.iconst 3, 1) := by decide +kernel
theorem dX12_of_25 : decode cX12_of 25 = .ok (.if_icmp .ge 12, 3) := by decide +kernel
theorem dX12_of_28 : decode cX12_of 28 = .ok (.aload_n 0, 1) := by decide +kernel
theorem dX12_of_29 : decode cX12_of 29 = .ok (.iload_n 1, 1) := by decide +kernel
theorem dX12_of_30 : decode cX12_of 30 = .ok (.iload_n 2, 1) := by decide +kernel
theorem dX12_of_31 : decode cX12_of 31 = .ok (.invokevirtual 67, 3) := by decide +kernel
theorem dX12_of_34 : decode cX12_of 34 = .ok (.goto 9, 3) := by decide +kernel
theorem dX12_of_37 : decode cX12_of 37 = .ok (.aload_n 0, 1) := by decide +kernel
theorem dX12_of_38 : decode cX12_of 38 = .ok (.getfield 25, 3) := by decide +kernel
theorem dX12_of_41 : decode cX12_of 41 = .ok (.iload_n 1, 1) := by decide +kernel
theorem dX12_of_42 : decode cX12_of 42 = .ok (.iaload, 1) := by decide +kernel
theorem dX12_of_43 : decode cX12_of 43 = .ok (.ireturn, 1) := by decide +kernel
theorem dX12_knows_0 : decode cX12_knows 0 = .ok (.aload_n 0, 1) := by decide +kernel
theorem dX12_knows_1 : decode cX12_knows 1 = .ok (.iload_n 1, 1) := by decide +kernel
theorem dX12_knows_2 : decode cX12_knows 2 = .ok (.invokevirtual 188, 3) := by decide +kernel
theorem dX12_knows_5 : decode cX12_knows 5 = .ok (.ifCond .eq 21, 3) := by decide +kernel
theorem dX12_knows_8 : decode cX12_knows 8 = .ok (.iload_n 2, 1) := by decide +kernel
theorem dX12_knows_9 : decode cX12_knows 9 = .ok (.invokestatic 182, 3) := by decide +kernel
theorem dX12_knows_12 : decode cX12_knows 12 = .ok (.ifCond .eq 14, 3) := by decide +kernel
theorem dX12_knows_15 : decode cX12_knows 15 = .ok (.aload_n 0, 1) := by decide +kernel
theorem dX12_knows_16 : decode cX12_knows 16 = .ok (.iload_n 1, 1) := by decide +kernel
theorem dX12_knows_17 : decode cX12_knows 17 = .ok (.iconst 3, 1) := by decide +kernel
theorem dX12_knows_18 : decode cX12_knows 18 = .ok (.iload_n 2, 1) := by decide +kernel
theorem dX12_knows_19 : decode cX12_knows 19 = .ok (.iadd, 1) := by decide +kernel
theorem dX12_knows_20 : decode cX12_knows 20 = .ok (.invokevirtual 67, 3) := by decide +kernel
theorem dX12_knows_23 : decode cX12_knows 23 = .ok (.goto 4, 3) := by decide +kernel
theorem dX12_knows_26 : decode cX12_knows 26 = .ok (.iconst (-1), 1) := by decide +kernel
theorem dX12_knows_27 : decode cX12_knows 27 = .ok (.ireturn, 1) := by decide +kernel
theorem dX12_does_0 : decode cX12_does 0 = .ok (.aload_n 0, 1) := by decide +kernel
theorem dX12_does_1 : decode cX12_does 1 = .ok (.iload_n 1, 1) := by decide +kernel
theorem dX12_does_2 : decode cX12_does 2 = .ok (.invokevirtual 188, 3) := by decide +kernel
theorem dX12_does_5 : decode cX12_does 5 = .ok (.ifCond .eq 19, 3) := by decide +kernel
theorem dX12_does_8 : decode cX12_does 8 = .ok (.iload_n 2, 1) := by decide +kernel
theorem dX12_does_9 : decode cX12_does 9 = .ok (.invokestatic 182, 3) := by decide +kernel
theorem dX12_does_12 : decode cX12_does 12 = .ok (.ifCond .eq 12, 3) := by decide +kernel
theorem dX12_does_15 : decode cX12_does 15 = .ok (.iload_n 3, 1) := by decide +kernel
theorem dX12_does_16 : decode cX12_does 16 = .ok (.iconst 0, 1) := by decide +kernel
theorem dX12_does_17 : decode cX12_does 17 = .ok (.iconst 2, 1) := by decide +kernel
theorem dX12_does_18 : decode cX12_does 18 = .ok (.invokestatic 63, 3) := by decide +kernel
theorem dX12_does_21 : decode cX12_does 21 = .ok (.ifCond .ne 5, 3) := by decide +kernel
theorem dX12_does_24 : decode cX12_does 24 = .ok (.iconst (-1), 1) := by decide +kernel
theorem dX12_does_25 : decode cX12_does 25 = .ok (.ireturn, 1) := by decide +kernel
theorem dX12_does_26 : decode cX12_does 26 = .ok (.sipush 1000, 3) := by decide +kernel
theorem dX12_does_29 : decode cX12_does 29 = .ok (.iload_n 3, 1) := by decide +kernel
theorem dX12_does_30 : decode cX12_does 30 = .ok (.ifCond .ne 12, 3) := by decide +kernel
theorem dX12_does_33 : decode cX12_does 33 = .ok (.aload_n 0, 1) := by decide +kernel
theorem dX12_does_34 : decode cX12_does 34 = .ok (.iload_n 1, 1) := by decide +kernel
theorem dX12_does_35 : decode cX12_does 35 = .ok (.iload_n 2, 1) := by decide +kernel
theorem dX12_does_36 : decode cX12_does 36 = .ok (.invokevirtual 71, 3) := by decide +kernel
theorem dX12_does_39 : decode cX12_does 39 = .ok (.goto 21, 3) := by decide +kernel
theorem dX12_does_42 : decode cX12_does 42 = .ok (.iload_n 3, 1) := by decide +kernel
theorem dX12_does_43 : decode cX12_does 43 = .ok (.iconst 1, 1) := by decide +kernel
theorem dX12_does_44 : decode cX12_does 44 = .ok (.if_icmp .ne 11, 3) := by decide +kernel
theorem dX12_does_47 : decode cX12_does 47 = .ok (.aload_n 0, 1) := by decide +kernel
theorem dX12_does_48 : decode cX12_does 48 = .ok (.iload_n 1, 1) := by decide +kernel
theorem dX12_does_49 : decode cX12_does 49 = .ok (.invokevirtual 92, 3) := by decide +kernel
theorem dX12_does_52 : decode cX12_does 52 = .ok (.goto 8, 3) := by decide +kernel
theorem dX12_does_55 : decode cX12_does 55 = .ok (.aload_n 0, 1) := by decide +kernel
theorem dX12_does_56 : decode cX12_does 56 = .ok (.iload_n 1, 1) := by decide +kernel
theorem dX12_does_57 : decode cX12_does 57 = .ok (.invokevirtual 96, 3) := by decide +kernel
theorem dX12_does_60 : decode cX12_does 60 = .ok (.iadd, 1) := by decide +kernel
theorem dX12_does_61 : decode cX12_does 61 = .ok (.ireturn, 1) := by decide +kernel
theorem dX12_mind_0 : decode cX12_mind 0 = .ok (.aload_n 0, 1) := by decide +kernel
theorem dX12_mind_1 : decode cX12_mind 1 = .ok (.iload_n 1, 1) := by decide +kernel
theorem dX12_mind_2 : decode cX12_mind 2 = .ok (.invokevirtual 188, 3) := by decide +kernel
theorem dX12_mind_5 : decode cX12_mind 5 = .ok (.ifCond .eq 27, 3) := by decide +kernel
theorem dX12_mind_8 : decode cX12_mind 8 = .ok (.iload_n 2, 1) := by decide +kernel
theorem dX12_mind_9 : decode cX12_mind 9 = .ok (.iconst 0, 1) := by decide +kernel
theorem dX12_mind_10 : decode cX12_mind 10 = .ok (.iconst 5, 1) := by decide +kernel
theorem dX12_mind_11 : decode cX12_mind 11 = .ok (.invokestatic 63, 3) := by decide +kernel
theorem dX12_mind_14 : decode cX12_mind 14 = .ok (.ifCond .eq 18, 3) := by decide +kernel
theorem dX12_mind_17 : decode cX12_mind 17 = .ok (.aload_n 0, 1) := by decide +kernel
theorem dX12_mind_18 : decode cX12_mind 18 = .ok (.bipush 16, 2) := by decide +kernel
theorem dX12_mind_20 : decode cX12_mind 20 = .ok (.bipush 11, 2) := by decide +kernel
theorem dX12_mind_22 : decode cX12_mind 22 = .ok (.iload_n 1, 1) := by decide +kernel
theorem dX12_mind_23 : decode cX12_mind 23 = .ok (.imul, 1) := by decide +kernel
theorem dX12_mind_24 : decode cX12_mind 24 = .ok (.iadd, 1) := by decide +kernel
theorem dX12_mind_25 : decode cX12_mind 25 = .ok (.iload_n 2, 1) := by decide +kernel
theorem dX12_mind_26 : decode cX12_mind 26 = .ok (.invokevirtual 179, 3) := by decide +kernel
theorem dX12_mind_29 : decode cX12_mind 29 = .ok (.goto 4, 3) := by decide +kernel
theorem dX12_mind_32 : decode cX12_mind 32 = .ok (.iconst (-1), 1) := by decide +kernel
theorem dX12_mind_33 : decode cX12_mind 33 = .ok (.ireturn, 1) := by decide +kernel
theorem dX12_teach_0 : decode cX12_teach 0 = .ok (.aload_n 0, 1) := by decide +kernel
theorem dX12_teach_1 : decode cX12_teach 1 = .ok (.iload_n 1, 1) := by decide +kernel
theorem dX12_teach_2 : decode cX12_teach 2 = .ok (.invokevirtual 188, 3) := by decide +kernel
theorem dX12_teach_5 : decode cX12_teach 5 = .ok (.ifCond .eq 39, 3) := by decide +kernel
theorem dX12_teach_8 : decode cX12_teach 8 = .ok (.iload_n 2, 1) := by decide +kernel
theorem dX12_teach_9 : decode cX12_teach 9 = .ok (.invokestatic 182, 3) := by decide +kernel
theorem dX12_teach_12 : decode cX12_teach 12 = .ok (.ifCond .eq 32, 3) := by decide +kernel
theorem dX12_teach_15 : decode cX12_teach 15 = .ok (.iload_n 3, 1) := by decide +kernel
theorem dX12_teach_16 : decode cX12_teach 16 = .ok (.iconst 0, 1) := by decide +kernel
theorem dX12_teach_17 : decode cX12_teach 17 = .ok (.bipush 99, 2) := by decide +kernel
theorem dX12_teach_19 : decode cX12_teach 19 = .ok (.invokestatic 63, 3) := by decide +kernel
theorem dX12_teach_22 : decode cX12_teach 22 = .ok (.ifCond .eq 22, 3) := by decide +kernel
theorem dX12_teach_25 : decode cX12_teach 25 = .ok (.aload_n 0, 1) := by decide +kernel
theorem dX12_teach_26 : decode cX12_teach 26 = .ok (.bipush 16, 2) := by decide +kernel
theorem dX12_teach_28 : decode cX12_teach 28 = .ok (.bipush 11, 2) := by decide +kernel
theorem dX12_teach_30 : decode cX12_teach 30 = .ok (.iload_n 1, 1) := by decide +kernel
theorem dX12_teach_31 : decode cX12_teach 31 = .ok (.imul, 1) := by decide +kernel
theorem dX12_teach_32 : decode cX12_teach 32 = .ok (.iadd, 1) := by decide +kernel
theorem dX12_teach_33 : decode cX12_teach 33 = .ok (.iconst 3, 1) := by decide +kernel
theorem dX12_teach_34 : decode cX12_teach 34 = .ok (.iadd, 1) := by decide +kernel
theorem dX12_teach_35 : decode cX12_teach 35 = .ok (.iload_n 2, 1) := by decide +kernel
theorem dX12_teach_36 : decode cX12_teach 36 = .ok (.iadd, 1) := by decide +kernel
theorem dX12_teach_37 : decode cX12_teach 37 = .ok (.iload_n 3, 1) := by decide +kernel
theorem dX12_teach_38 : decode cX12_teach 38 = .ok (.invokevirtual 179, 3) := by decide +kernel
theorem dX12_teach_41 : decode cX12_teach 41 = .ok (.goto 4, 3) := by decide +kernel
theorem dX12_teach_44 : decode cX12_teach 44 = .ok (.iconst (-1), 1) := by decide +kernel
theorem dX12_teach_45 : decode cX12_teach 45 = .ok (.ireturn, 1) := by decide +kernel
theorem dX12_sick_0 : decode cX12_sick 0 = .ok (.aload_n 0, 1) := by decide +kernel
theorem dX12_sick_1 : decode cX12_sick 1 = .ok (.iload_n 1, 1) := by decide +kernel
theorem dX12_sick_2 : decode cX12_sick 2 = .ok (.invokevirtual 188, 3) := by decide +kernel
theorem dX12_sick_5 : decode cX12_sick 5 = .ok (.ifCond .eq 30, 3) := by decide +kernel
theorem dX12_sick_8 : decode cX12_sick 8 = .ok (.iload_n 2, 1) := by decide +kernel
theorem dX12_sick_9 : decode cX12_sick 9 = .ok (.iconst 0, 1) := by decide +kernel
theorem dX12_sick_10 : decode cX12_sick 10 = .ok (.bipush 9, 2) := by decide +kernel
theorem dX12_sick_12 : decode cX12_sick 12 = .ok (.invokestatic 63, 3) := by decide +kernel
theorem dX12_sick_15 : decode cX12_sick 15 = .ok (.ifCond .eq 20, 3) := by decide +kernel
theorem dX12_sick_18 : decode cX12_sick 18 = .ok (.aload_n 0, 1) := by decide +kernel
theorem dX12_sick_19 : decode cX12_sick 19 = .ok (.bipush 16, 2) := by decide +kernel
theorem dX12_sick_21 : decode cX12_sick 21 = .ok (.bipush 11, 2) := by decide +kernel
theorem dX12_sick_23 : decode cX12_sick 23 = .ok (.iload_n 1, 1) := by decide +kernel
theorem dX12_sick_24 : decode cX12_sick 24 = .ok (.imul, 1) := by decide +kernel
theorem dX12_sick_25 : decode cX12_sick 25 = .ok (.iadd, 1) := by decide +kernel
theorem dX12_sick_26 : decode cX12_sick 26 = .ok (.iconst 2, 1) := by decide +kernel
theorem dX12_sick_27 : decode cX12_sick 27 = .ok (.iadd, 1) := by decide +kernel
theorem dX12_sick_28 : decode cX12_sick 28 = .ok (.iload_n 2, 1) := by decide +kernel
theorem dX12_sick_29 : decode cX12_sick 29 = .ok (.invokevirtual 179, 3) := by decide +kernel
theorem dX12_sick_32 : decode cX12_sick 32 = .ok (.goto 4, 3) := by decide +kernel
theorem dX12_sick_35 : decode cX12_sick 35 = .ok (.iconst (-1), 1) := by decide +kernel
theorem dX12_sick_36 : decode cX12_sick 36 = .ok (.ireturn, 1) := by decide +kernel
theorem dX12_nights_0 : decode cX12_nights 0 = .ok (.iload_n 1, 1) := by decide +kernel
theorem dX12_nights_1 : decode cX12_nights 1 = .ok (.iconst 1, 1) := by decide +kernel
theorem dX12_nights_2 : decode cX12_nights 2 = .ok (.bipush 60, 2) := by decide +kernel
theorem dX12_nights_4 : decode cX12_nights 4 = .ok (.invokestatic 63, 3) := by decide +kernel
theorem dX12_nights_7 : decode cX12_nights 7 = .ok (.ifCond .ne 5, 3) := by decide +kernel
theorem dX12_nights_10 : decode cX12_nights 10 = .ok (.iconst (-1), 1) := by decide +kernel
theorem dX12_nights_11 : decode cX12_nights 11 = .ok (.ireturn, 1) := by decide +kernel
theorem dX12_nights_12 : decode cX12_nights 12 = .ok (.aload_n 0, 1) := by decide +kernel
theorem dX12_nights_13 : decode cX12_nights 13 = .ok (.iload_n 1, 1) := by decide +kernel
theorem dX12_nights_14 : decode cX12_nights 14 = .ok (.invokevirtual 191, 3) := by decide +kernel
theorem dX12_nights_17 : decode cX12_nights 17 = .ok (.aload_n 0, 1) := by decide +kernel
theorem dX12_nights_18 : decode cX12_nights 18 = .ok (.invokevirtual 194, 3) := by decide +kernel
theorem dX12_nights_21 : decode cX12_nights 21 = .ok (.aload_n 0, 1) := by decide +kernel
theorem dX12_nights_22 : decode cX12_nights 22 = .ok (.getfield 9, 3) := by decide +kernel
theorem dX12_nights_25 : decode cX12_nights 25 = .ok (.bipush 7, 2) := by decide +kernel
theorem dX12_nights_27 : decode cX12_nights 27 = .ok (.iaload, 1) := by decide +kernel
theorem dX12_nights_28 : decode cX12_nights 28 = .ok (.ireturn, 1) := by decide +kernel
theorem dX12_seed_0 : decode cX12_seed 0 = .ok (.aload_n 0, 1) := by decide +kernel
theorem dX12_seed_1 : decode cX12_seed 1 = .ok (.iconst 5, 1) := by decide +kernel
theorem dX12_seed_2 : decode cX12_seed 2 = .ok (.iload_n 1, 1) := by decide +kernel
theorem dX12_seed_3 : decode cX12_seed 3 = .ok (.invokevirtual 179, 3) := by decide +kernel
theorem dX12_seed_6 : decode cX12_seed 6 = .ok (.ireturn, 1) := by decide +kernel
theorem dX12_draw_0 : decode cX12_draw 0 = .ok (.aload_n 0, 1) := by decide +kernel
theorem dX12_draw_1 : decode cX12_draw 1 = .ok (.getfield 9, 3) := by decide +kernel
theorem dX12_draw_4 : decode cX12_draw 4 = .ok (.iconst 5, 1) := by decide +kernel
theorem dX12_draw_5 : decode cX12_draw 5 = .ok (.aload_n 0, 1) := by decide +kernel
theorem dX12_draw_6 : decode cX12_draw 6 = .ok (.getfield 9, 3) := by decide +kernel
theorem dX12_draw_9 : decode cX12_draw 9 = .ok (.iconst 5, 1) := by decide +kernel
theorem dX12_draw_10 : decode cX12_draw 10 = .ok (.iaload, 1) := by decide +kernel
theorem dX12_draw_11 : decode cX12_draw 11 = .ok (.ldc 196, 2) := by decide +kernel
theorem dX12_draw_13 : decode cX12_draw 13 = .ok (.imul, 1) := by decide +kernel
theorem dX12_draw_14 : decode cX12_draw 14 = .ok (.sipush 12345, 3) := by decide +kernel
theorem dX12_draw_17 : decode cX12_draw 17 = .ok (.iadd, 1) := by decide +kernel
theorem dX12_draw_18 : decode cX12_draw 18 = .ok (.iastore, 1) := by decide +kernel
theorem dX12_draw_19 : decode cX12_draw 19 = .ok (.aload_n 0, 1) := by decide +kernel
theorem dX12_draw_20 : decode cX12_draw 20 = .ok (.getfield 9, 3) := by decide +kernel
theorem dX12_draw_23 : decode cX12_draw 23 = .ok (.iconst 5, 1) := by decide +kernel
theorem dX12_draw_24 : decode cX12_draw 24 = .ok (.iaload, 1) := by decide +kernel
theorem dX12_draw_25 : decode cX12_draw 25 = .ok (.bipush 16, 2) := by decide +kernel
theorem dX12_draw_27 : decode cX12_draw 27 = .ok (.iushr, 1) := by decide +kernel
theorem dX12_draw_28 : decode cX12_draw 28 = .ok (.ireturn, 1) := by decide +kernel
theorem dX12_byDraws_0 : decode cX12_byDraws 0 = .ok (.aload_n 0, 1) := by decide +kernel
theorem dX12_byDraws_1 : decode cX12_byDraws 1 = .ok (.getfield 9, 3) := by decide +kernel
theorem dX12_byDraws_4 : decode cX12_byDraws 4 = .ok (.bipush 6, 2) := by decide +kernel
theorem dX12_byDraws_6 : decode cX12_byDraws 6 = .ok (.iaload, 1) := by decide +kernel
theorem dX12_byDraws_7 : decode cX12_byDraws 7 = .ok (.ifCond .le 66, 3) := by decide +kernel
theorem dX12_byDraws_10 : decode cX12_byDraws 10 = .ok (.aload_n 0, 1) := by decide +kernel
theorem dX12_byDraws_11 : decode cX12_byDraws 11 = .ok (.invokevirtual 197, 3) := by decide +kernel
theorem dX12_byDraws_14 : decode cX12_byDraws 14 = .ok (.aload_n 0, 1) := by decide +kernel
theorem dX12_byDraws_15 : decode cX12_byDraws 15 = .ok (.getfield 9, 3) := by decide +kernel
theorem dX12_byDraws_18 : decode cX12_byDraws 18 = .ok (.bipush 6, 2) := by decide +kernel
theorem dX12_byDraws_20 : decode cX12_byDraws 20 = .ok (.iaload, 1) := by decide +kernel
theorem dX12_byDraws_21 : decode cX12_byDraws 21 = .ok (.irem, 1) := by decide +kernel
theorem dX12_byDraws_22 : decode cX12_byDraws 22 = .ok (.istore_n 1, 1) := by decide +kernel
theorem dX12_byDraws_23 : decode cX12_byDraws 23 = .ok (.aload_n 0, 1) := by decide +kernel
theorem dX12_byDraws_24 : decode cX12_byDraws 24 = .ok (.invokevirtual 197, 3) := by decide +kernel
theorem dX12_byDraws_27 : decode cX12_byDraws 27 = .ok (.bipush 100, 2) := by decide +kernel
theorem dX12_byDraws_29 : decode cX12_byDraws 29 = .ok (.irem, 1) := by decide +kernel
theorem dX12_byDraws_30 : decode cX12_byDraws 30 = .ok (.aload_n 0, 1) := by decide +kernel
theorem dX12_byDraws_31 : decode cX12_byDraws 31 = .ok (.getfield 9, 3) := by decide +kernel
theorem dX12_byDraws_34 : decode cX12_byDraws 34 = .ok (.iconst 4, 1) := by decide +kernel
theorem dX12_byDraws_35 : decode cX12_byDraws 35 = .ok (.iaload, 1) := by decide +kernel
theorem dX12_byDraws_36 : decode cX12_byDraws 36 = .ok (.if_icmp .ge 37, 3) := by decide +kernel
theorem dX12_byDraws_39 : decode cX12_byDraws 39 = .ok (.aload_n 0, 1) := by decide +kernel
theorem dX12_byDraws_40 : decode cX12_byDraws 40 = .ok (.invokevirtual 197, 3) := by decide +kernel
theorem dX12_byDraws_43 : decode cX12_byDraws 43 = .ok (.bipush 10, 2) := by decide +kernel
theorem dX12_byDraws_45 : decode cX12_byDraws 45 = .ok (.irem, 1) := by decide +kernel
theorem dX12_byDraws_46 : decode cX12_byDraws 46 = .ok (.istore_n 2, 1) := by decide +kernel
theorem dX12_byDraws_47 : decode cX12_byDraws 47 = .ok (.aload_n 0, 1) := by decide +kernel
theorem dX12_byDraws_48 : decode cX12_byDraws 48 = .ok (.iload_n 1, 1) := by decide +kernel
theorem dX12_byDraws_49 : decode cX12_byDraws 49 = .ok (.iconst 2, 1) := by decide +kernel
theorem dX12_byDraws_50 : decode cX12_byDraws 50 = .ok (.iload_n 2, 1) := by decide +kernel
theorem dX12_byDraws_51 : decode cX12_byDraws 51 = .ok (.aload_n 0, 1) := by decide +kernel
theorem dX12_byDraws_52 : decode cX12_byDraws 52 = .ok (.iload_n 1, 1) := by decide +kernel
theorem dX12_byDraws_53 : decode cX12_byDraws 53 = .ok (.iconst 2, 1) := by decide +kernel
theorem dX12_byDraws_54 : decode cX12_byDraws 54 = .ok (.invokevirtual 67, 3) := by decide +kernel
theorem dX12_byDraws_57 : decode cX12_byDraws 57 = .ok (.if_icmp .le 7, 3) := by decide +kernel
theorem dX12_byDraws_60 : decode cX12_byDraws 60 = .ok (.iload_n 2, 1) := by decide +kernel
theorem dX12_byDraws_61 : decode cX12_byDraws 61 = .ok (.goto 9, 3) := by decide +kernel
theorem dX12_byDraws_64 : decode cX12_byDraws 64 = .ok (.aload_n 0, 1) := by decide +kernel
theorem dX12_byDraws_65 : decode cX12_byDraws 65 = .ok (.iload_n 1, 1) := by decide +kernel
theorem dX12_byDraws_66 : decode cX12_byDraws 66 = .ok (.iconst 2, 1) := by decide +kernel
theorem dX12_byDraws_67 : decode cX12_byDraws 67 = .ok (.invokevirtual 67, 3) := by decide +kernel
theorem dX12_byDraws_70 : decode cX12_byDraws 70 = .ok (.invokevirtual 88, 3) := by decide +kernel
theorem dX12_byDraws_73 : decode cX12_byDraws 73 = .ok (.aload_n 0, 1) := by decide +kernel
theorem dX12_byDraws_74 : decode cX12_byDraws 74 = .ok (.invokevirtual 110, 3) := by decide +kernel
theorem dX12_byDraws_77 : decode cX12_byDraws 77 = .ok (.ireturn, 1) := by decide +kernel
theorem dX12_night_0 : decode cX12_night 0 = .ok (.aload_n 0, 1) := by decide +kernel
theorem dX12_night_1 : decode cX12_night 1 = .ok (.invokevirtual 200, 3) := by decide +kernel
theorem dX12_night_4 : decode cX12_night 4 = .ok (.istore_n 1, 1) := by decide +kernel
theorem dX12_night_5 : decode cX12_night 5 = .ok (.aload_n 0, 1) := by decide +kernel
theorem dX12_night_6 : decode cX12_night 6 = .ok (.invokevirtual 194, 3) := by decide +kernel
theorem dX12_night_9 : decode cX12_night 9 = .ok (.iload_n 1, 1) := by decide +kernel
theorem dX12_night_10 : decode cX12_night 10 = .ok (.ireturn, 1) := by decide +kernel
theorem dX12_spoilt_0 : decode cX12_spoilt 0 = .ok (.iload_n 1, 1) := by decide +kernel
theorem dX12_spoilt_1 : decode cX12_spoilt 1 = .ok (.iconst 1, 1) := by decide +kernel
theorem dX12_spoilt_2 : decode cX12_spoilt 2 = .ok (.bipush 30, 2) := by decide +kernel
theorem dX12_spoilt_4 : decode cX12_spoilt 4 = .ok (.invokestatic 63, 3) := by decide +kernel
theorem dX12_spoilt_7 : decode cX12_spoilt 7 = .ok (.ifCond .ne 5, 3) := by decide +kernel
theorem dX12_spoilt_10 : decode cX12_spoilt 10 = .ok (.iconst (-1), 1) := by decide +kernel
theorem dX12_spoilt_11 : decode cX12_spoilt 11 = .ok (.ireturn, 1) := by decide +kernel
theorem dX12_spoilt_12 : decode cX12_spoilt 12 = .ok (.aload_n 0, 1) := by decide +kernel
theorem dX12_spoilt_13 : decode cX12_spoilt 13 = .ok (.getfield 9, 3) := by decide +kernel
theorem dX12_spoilt_16 : decode cX12_spoilt 16 = .ok (.aload_n 0, 1) := by decide +kernel
theorem dX12_spoilt_17 : decode cX12_spoilt 17 = .ok (.getfield 16, 3) := by decide +kernel
theorem dX12_spoilt_20 : decode cX12_spoilt 20 = .ok (.invokestatic 169, 3) := by decide +kernel
theorem dX12_spoilt_23 : decode cX12_spoilt 23 = .ok (.aload_n 0, 1) := by decide +kernel
theorem dX12_spoilt_24 : decode cX12_spoilt 24 = .ok (.invokevirtual 102, 3) := by decide +kernel
theorem dX12_spoilt_27 : decode cX12_spoilt 27 = .ok (.istore_n 2, 1) := by decide +kernel
theorem dX12_spoilt_28 : decode cX12_spoilt 28 = .ok (.iconst 0, 1) := by decide +kernel
theorem dX12_spoilt_29 : decode cX12_spoilt 29 = .ok (.istore_n 3, 1) := by decide +kernel
theorem dX12_spoilt_30 : decode cX12_spoilt 30 = .ok (.iconst 0, 1) := by decide +kernel
theorem dX12_spoilt_31 : decode cX12_spoilt 31 = .ok (.istore 4, 2) := by decide +kernel
theorem dX12_spoilt_33 : decode cX12_spoilt 33 = .ok (.iload 4, 2) := by decide +kernel
theorem dX12_spoilt_35 : decode cX12_spoilt 35 = .ok (.iload_n 1, 1) := by decide +kernel
theorem dX12_spoilt_36 : decode cX12_spoilt 36 = .ok (.if_icmp .ge 52, 3) := by decide +kernel
theorem dX12_spoilt_39 : decode cX12_spoilt 39 = .ok (.iload_n 3, 1) := by decide +kernel
theorem dX12_spoilt_40 : decode cX12_spoilt 40 = .ok (.aload_n 0, 1) := by decide +kernel
theorem dX12_spoilt_41 : decode cX12_spoilt 41 = .ok (.invokevirtual 200, 3) := by decide +kernel
theorem dX12_spoilt_44 : decode cX12_spoilt 44 = .ok (.iload_n 2, 1) := by decide +kernel
theorem dX12_spoilt_45 : decode cX12_spoilt 45 = .ok (.if_icmp .ge 7, 3) := by decide +kernel
theorem dX12_spoilt_48 : decode cX12_spoilt 48 = .ok (.iconst 1, 1) := by decide +kernel
theorem dX12_spoilt_49 : decode cX12_spoilt 49 = .ok (.goto 4, 3) := by decide +kernel
theorem dX12_spoilt_52 : decode cX12_spoilt 52 = .ok (.iconst 0, 1) := by decide +kernel
theorem dX12_spoilt_53 : decode cX12_spoilt 53 = .ok (.iadd, 1) := by decide +kernel
theorem dX12_spoilt_54 : decode cX12_spoilt 54 = .ok (.istore_n 3, 1) := by decide +kernel
theorem dX12_spoilt_55 : decode cX12_spoilt 55 = .ok (.aload_n 0, 1) := by decide +kernel
theorem dX12_spoilt_56 : decode cX12_spoilt 56 = .ok (.getfield 9, 3) := by decide +kernel
theorem dX12_spoilt_59 : decode cX12_spoilt 59 = .ok (.iconst 5, 1) := by decide +kernel
theorem dX12_spoilt_60 : decode cX12_spoilt 60 = .ok (.iaload, 1) := by decide +kernel
theorem dX12_spoilt_61 : decode cX12_spoilt 61 = .ok (.istore 5, 2) := by decide +kernel
theorem dX12_spoilt_63 : decode cX12_spoilt 63 = .ok (.aload_n 0, 1) := by decide +kernel
theorem dX12_spoilt_64 : decode cX12_spoilt 64 = .ok (.getfield 16, 3) := by decide +kernel
theorem dX12_spoilt_67 : decode cX12_spoilt 67 = .ok (.aload_n 0, 1) := by decide +kernel
theorem dX12_spoilt_68 : decode cX12_spoilt 68 = .ok (.getfield 9, 3) := by decide +kernel
theorem dX12_spoilt_71 : decode cX12_spoilt 71 = .ok (.invokestatic 169, 3) := by decide +kernel
theorem dX12_spoilt_74 : decode cX12_spoilt 74 = .ok (.aload_n 0, 1) := by decide +kernel
theorem dX12_spoilt_75 : decode cX12_spoilt 75 = .ok (.getfield 9, 3) := by decide +kernel
theorem dX12_spoilt_78 : decode cX12_spoilt 78 = .ok (.iconst 5, 1) := by decide +kernel
theorem dX12_spoilt_79 : decode cX12_spoilt 79 = .ok (.iload 5, 2) := by decide +kernel
theorem dX12_spoilt_81 : decode cX12_spoilt 81 = .ok (.iastore, 1) := by decide +kernel
theorem dX12_spoilt_82 : decode cX12_spoilt 82 = .ok (.iinc 4 1, 3) := by decide +kernel
theorem dX12_spoilt_85 : decode cX12_spoilt 85 = .ok (.goto (-52), 3) := by decide +kernel
theorem dX12_spoilt_88 : decode cX12_spoilt 88 = .ok (.aload_n 0, 1) := by decide +kernel
theorem dX12_spoilt_89 : decode cX12_spoilt 89 = .ok (.getfield 16, 3) := by decide +kernel
theorem dX12_spoilt_92 : decode cX12_spoilt 92 = .ok (.aload_n 0, 1) := by decide +kernel
theorem dX12_spoilt_93 : decode cX12_spoilt 93 = .ok (.getfield 9, 3) := by decide +kernel
theorem dX12_spoilt_96 : decode cX12_spoilt 96 = .ok (.invokestatic 169, 3) := by decide +kernel
theorem dX12_spoilt_99 : decode cX12_spoilt 99 = .ok (.iload_n 3, 1) := by decide +kernel
theorem dX12_spoilt_100 : decode cX12_spoilt 100 = .ok (.ireturn, 1) := by decide +kernel
theorem dX12_movedNow_0 : decode cX12_movedNow 0 = .ok (.aload_n 0, 1) := by decide +kernel
theorem dX12_movedNow_1 : decode cX12_movedNow 1 = .ok (.invokevirtual 78, 3) := by decide +kernel
theorem dX12_movedNow_4 : decode cX12_movedNow 4 = .ok (.iconst 0, 1) := by decide +kernel
theorem dX12_movedNow_5 : decode cX12_movedNow 5 = .ok (.istore_n 1, 1) := by decide +kernel
theorem dX12_movedNow_6 : decode cX12_movedNow 6 = .ok (.iconst 0, 1) := by decide +kernel
theorem dX12_movedNow_7 : decode cX12_movedNow 7 = .ok (.istore_n 2, 1) := by decide +kernel
theorem dX12_movedNow_8 : decode cX12_movedNow 8 = .ok (.iload_n 2, 1) := by decide +kernel
theorem dX12_movedNow_9 : decode cX12_movedNow 9 = .ok (.aload_n 0, 1) := by decide +kernel
theorem dX12_movedNow_10 : decode cX12_movedNow 10 = .ok (.getfield 9, 3) := by decide +kernel
theorem dX12_movedNow_13 : decode cX12_movedNow 13 = .ok (.bipush 6, 2) := by decide +kernel
theorem dX12_movedNow_15 : decode cX12_movedNow 15 = .ok (.iaload, 1) := by decide +kernel
theorem dX12_movedNow_16 : decode cX12_movedNow 16 = .ok (.if_icmp .ge 43, 3) := by decide +kernel
theorem dX12_movedNow_19 : decode cX12_movedNow 19 = .ok (.iload_n 1, 1) := by decide +kernel
theorem dX12_movedNow_20 : decode cX12_movedNow 20 = .ok (.aload_n 0, 1) := by decide +kernel
theorem dX12_movedNow_21 : decode cX12_movedNow 21 = .ok (.getfield 25, 3) := by decide +kernel
theorem dX12_movedNow_24 : decode cX12_movedNow 24 = .ok (.iload_n 2, 1) := by decide +kernel
theorem dX12_movedNow_25 : decode cX12_movedNow 25 = .ok (.iaload, 1) := by decide +kernel
theorem dX12_movedNow_26 : decode cX12_movedNow 26 = .ok (.bipush 8, 2) := by decide +kernel
theorem dX12_movedNow_28 : decode cX12_movedNow 28 = .ok (.if_icmp .eq 22, 3) := by decide +kernel
theorem dX12_movedNow_31 : decode cX12_movedNow 31 = .ok (.aload_n 0, 1) := by decide +kernel
theorem dX12_movedNow_32 : decode cX12_movedNow 32 = .ok (.getfield 25, 3) := by decide +kernel
theorem dX12_movedNow_35 : decode cX12_movedNow 35 = .ok (.iload_n 2, 1) := by decide +kernel
theorem dX12_movedNow_36 : decode cX12_movedNow 36 = .ok (.iaload, 1) := by decide +kernel
theorem dX12_movedNow_37 : decode cX12_movedNow 37 = .ok (.aload_n 0, 1) := by decide +kernel
theorem dX12_movedNow_38 : decode cX12_movedNow 38 = .ok (.iload_n 2, 1) := by decide +kernel
theorem dX12_movedNow_39 : decode cX12_movedNow 39 = .ok (.iconst 1, 1) := by decide +kernel
theorem dX12_movedNow_40 : decode cX12_movedNow 40 = .ok (.invokevirtual 67, 3) := by decide +kernel
theorem dX12_movedNow_43 : decode cX12_movedNow 43 = .ok (.if_icmp .eq 7, 3) := by decide +kernel
theorem dX12_movedNow_46 : decode cX12_movedNow 46 = .ok (.iconst 1, 1) := by decide +kernel
theorem dX12_movedNow_47 : decode cX12_movedNow 47 = .ok (.goto 4, 3) := by decide +kernel
theorem dX12_movedNow_50 : decode cX12_movedNow 50 = .ok (.iconst 0, 1) := by decide +kernel
theorem dX12_movedNow_51 : decode cX12_movedNow 51 = .ok (.iadd, 1) := by decide +kernel
theorem dX12_movedNow_52 : decode cX12_movedNow 52 = .ok (.istore_n 1, 1) := by decide +kernel
theorem dX12_movedNow_53 : decode cX12_movedNow 53 = .ok (.iinc 2 1, 3) := by decide +kernel
theorem dX12_movedNow_56 : decode cX12_movedNow 56 = .ok (.goto (-48), 3) := by decide +kernel
theorem dX12_movedNow_59 : decode cX12_movedNow 59 = .ok (.iload_n 1, 1) := by decide +kernel
theorem dX12_movedNow_60 : decode cX12_movedNow 60 = .ok (.ireturn, 1) := by decide +kernel
theorem dX12_state_0 : decode cX12_state 0 = .ok (.iload_n 1, 1) := by decide +kernel
theorem dX12_state_1 : decode cX12_state 1 = .ok (.tableswitch 74 0 5 #[39, 46, 54, 59, 64, 69], 39) := by decide +kernel
theorem dX12_state_40 : decode cX12_state 40 = .ok (.aload_n 0, 1) := by decide +kernel
theorem dX12_state_41 : decode cX12_state 41 = .ok (.getfield 9, 3) := by decide +kernel
theorem dX12_state_44 : decode cX12_state 44 = .ok (.iconst 0, 1) := by decide +kernel
theorem dX12_state_45 : decode cX12_state 45 = .ok (.iaload, 1) := by decide +kernel
theorem dX12_state_46 : decode cX12_state 46 = .ok (.ireturn, 1) := by decide +kernel
theorem dX12_state_47 : decode cX12_state 47 = .ok (.aload_n 0, 1) := by decide +kernel
theorem dX12_state_48 : decode cX12_state 48 = .ok (.getfield 9, 3) := by decide +kernel
theorem dX12_state_51 : decode cX12_state 51 = .ok (.bipush 7, 2) := by decide +kernel
theorem dX12_state_53 : decode cX12_state 53 = .ok (.iaload, 1) := by decide +kernel
theorem dX12_state_54 : decode cX12_state 54 = .ok (.ireturn, 1) := by decide +kernel
theorem dX12_state_55 : decode cX12_state 55 = .ok (.aload_n 0, 1) := by decide +kernel
theorem dX12_state_56 : decode cX12_state 56 = .ok (.invokevirtual 102, 3) := by decide +kernel
theorem dX12_state_59 : decode cX12_state 59 = .ok (.ireturn, 1) := by decide +kernel
theorem dX12_state_60 : decode cX12_state 60 = .ok (.aload_n 0, 1) := by decide +kernel
theorem dX12_state_61 : decode cX12_state 61 = .ok (.invokevirtual 203, 3) := by decide +kernel
theorem dX12_state_64 : decode cX12_state 64 = .ok (.ireturn, 1) := by decide +kernel
theorem dX12_state_65 : decode cX12_state 65 = .ok (.aload_n 0, 1) := by decide +kernel
theorem dX12_state_66 : decode cX12_state 66 = .ok (.invokevirtual 206, 3) := by decide +kernel
theorem dX12_state_69 : decode cX12_state 69 = .ok (.ireturn, 1) := by decide +kernel
theorem dX12_state_70 : decode cX12_state 70 = .ok (.aload_n 0, 1) := by decide +kernel
theorem dX12_state_71 : decode cX12_state 71 = .ok (.invokevirtual 209, 3) := by decide +kernel
theorem dX12_state_74 : decode cX12_state 74 = .ok (.ireturn, 1) := by decide +kernel
theorem dX12_state_75 : decode cX12_state 75 = .ok (.iconst (-1), 1) := by decide +kernel
theorem dX12_state_76 : decode cX12_state 76 = .ok (.ireturn, 1) := by decide +kernel
theorem dX12_thenAt_0 : decode cX12_thenAt 0 = .ok (.aload_n 0, 1) := by decide +kernel
theorem dX12_thenAt_1 : decode cX12_thenAt 1 = .ok (.getfield 9, 3) := by decide +kernel
theorem dX12_thenAt_4 : decode cX12_thenAt 4 = .ok (.aload_n 0, 1) := by decide +kernel
theorem dX12_thenAt_5 : decode cX12_thenAt 5 = .ok (.getfield 16, 3) := by decide +kernel
theorem dX12_thenAt_8 : decode cX12_thenAt 8 = .ok (.invokestatic 169, 3) := by decide +kernel
theorem dX12_thenAt_11 : decode cX12_thenAt 11 = .ok (.aload_n 0, 1) := by decide +kernel
theorem dX12_thenAt_12 : decode cX12_thenAt 12 = .ok (.iload_n 2, 1) := by decide +kernel
theorem dX12_thenAt_13 : decode cX12_thenAt 13 = .ok (.invokevirtual 191, 3) := by decide +kernel
theorem dX12_thenAt_16 : decode cX12_thenAt 16 = .ok (.aload_n 0, 1) := by decide +kernel
theorem dX12_thenAt_17 : decode cX12_thenAt 17 = .ok (.getfield 9, 3) := by decide +kernel
theorem dX12_thenAt_20 : decode cX12_thenAt 20 = .ok (.iload_n 1, 1) := by decide +kernel
theorem dX12_thenAt_21 : decode cX12_thenAt 21 = .ok (.iaload, 1) := by decide +kernel
theorem dX12_thenAt_22 : decode cX12_thenAt 22 = .ok (.istore_n 3, 1) := by decide +kernel
theorem dX12_thenAt_23 : decode cX12_thenAt 23 = .ok (.aload_n 0, 1) := by decide +kernel
theorem dX12_thenAt_24 : decode cX12_thenAt 24 = .ok (.getfield 16, 3) := by decide +kernel
theorem dX12_thenAt_27 : decode cX12_thenAt 27 = .ok (.aload_n 0, 1) := by decide +kernel
theorem dX12_thenAt_28 : decode cX12_thenAt 28 = .ok (.getfield 9, 3) := by decide +kernel
theorem dX12_thenAt_31 : decode cX12_thenAt 31 = .ok (.invokestatic 169, 3) := by decide +kernel
theorem dX12_thenAt_34 : decode cX12_thenAt 34 = .ok (.iload_n 3, 1) := by decide +kernel
theorem dX12_thenAt_35 : decode cX12_thenAt 35 = .ok (.ireturn, 1) := by decide +kernel
theorem dX12_knew_0 : decode cX12_knew 0 = .ok (.aload_n 0, 1) := by decide +kernel
theorem dX12_knew_1 : decode cX12_knew 1 = .ok (.iload_n 1, 1) := by decide +kernel
theorem dX12_knew_2 : decode cX12_knew 2 = .ok (.invokevirtual 188, 3) := by decide +kernel
theorem dX12_knew_5 : decode cX12_knew 5 = .ok (.ifCond .eq 24, 3) := by decide +kernel
theorem dX12_knew_8 : decode cX12_knew 8 = .ok (.iload_n 2, 1) := by decide +kernel
theorem dX12_knew_9 : decode cX12_knew 9 = .ok (.invokestatic 182, 3) := by decide +kernel
theorem dX12_knew_12 : decode cX12_knew 12 = .ok (.ifCond .eq 17, 3) := by decide +kernel
theorem dX12_knew_15 : decode cX12_knew 15 = .ok (.iload_n 3, 1) := by decide +kernel
theorem dX12_knew_16 : decode cX12_knew 16 = .ok (.iconst 0, 1) := by decide +kernel
theorem dX12_knew_17 : decode cX12_knew 17 = .ok (.bipush 60, 2) := by decide +kernel
theorem dX12_knew_19 : decode cX12_knew 19 = .ok (.invokestatic 63, 3) := by decide +kernel
theorem dX12_knew_22 : decode cX12_knew 22 = .ok (.ifCond .eq 7, 3) := by decide +kernel
theorem dX12_knew_25 : decode cX12_knew 25 = .ok (.iconst 1, 1) := by decide +kernel
theorem dX12_knew_26 : decode cX12_knew 26 = .ok (.goto 4, 3) := by decide +kernel
theorem dX12_knew_29 : decode cX12_knew 29 = .ok (.iconst 0, 1) := by decide +kernel
theorem dX12_knew_30 : decode cX12_knew 30 = .ok (.istore 4, 2) := by decide +kernel
theorem dX12_knew_32 : decode cX12_knew 32 = .ok (.iload 4, 2) := by decide +kernel
theorem dX12_knew_34 : decode cX12_knew 34 = .ok (.ifCond .eq 22, 3) := by decide +kernel
theorem dX12_knew_37 : decode cX12_knew 37 = .ok (.aload_n 0, 1) := by decide +kernel
theorem dX12_knew_38 : decode cX12_knew 38 = .ok (.bipush 16, 2) := by decide +kernel
theorem dX12_knew_40 : decode cX12_knew 40 = .ok (.bipush 11, 2) := by decide +kernel
theorem dX12_knew_42 : decode cX12_knew 42 = .ok (.iload_n 1, 1) := by decide +kernel
theorem dX12_knew_43 : decode cX12_knew 43 = .ok (.imul, 1) := by decide +kernel
theorem dX12_knew_44 : decode cX12_knew 44 = .ok (.iadd, 1) := by decide +kernel
theorem dX12_knew_45 : decode cX12_knew 45 = .ok (.iconst 3, 1) := by decide +kernel
theorem dX12_knew_46 : decode cX12_knew 46 = .ok (.iadd, 1) := by decide +kernel
theorem dX12_knew_47 : decode cX12_knew 47 = .ok (.iload_n 2, 1) := by decide +kernel
theorem dX12_knew_48 : decode cX12_knew 48 = .ok (.iadd, 1) := by decide +kernel
theorem dX12_knew_49 : decode cX12_knew 49 = .ok (.iload_n 3, 1) := by decide +kernel
theorem dX12_knew_50 : decode cX12_knew 50 = .ok (.invokevirtual 212, 3) := by decide +kernel
theorem dX12_knew_53 : decode cX12_knew 53 = .ok (.goto 4, 3) := by decide +kernel
theorem dX12_knew_56 : decode cX12_knew 56 = .ok (.iconst (-1), 1) := by decide +kernel
theorem dX12_knew_57 : decode cX12_knew 57 = .ok (.ireturn, 1) := by decide +kernel
theorem dX12_earned_0 : decode cX12_earned 0 = .ok (.iload_n 1, 1) := by decide +kernel
theorem dX12_earned_1 : decode cX12_earned 1 = .ok (.iconst 0, 1) := by decide +kernel
theorem dX12_earned_2 : decode cX12_earned 2 = .ok (.bipush 60, 2) := by decide +kernel
theorem dX12_earned_4 : decode cX12_earned 4 = .ok (.invokestatic 63, 3) := by decide +kernel
theorem dX12_earned_7 : decode cX12_earned 7 = .ok (.ifCond .eq 13, 3) := by decide +kernel
theorem dX12_earned_10 : decode cX12_earned 10 = .ok (.aload_n 0, 1) := by decide +kernel
theorem dX12_earned_11 : decode cX12_earned 11 = .ok (.bipush 7, 2) := by decide +kernel
theorem dX12_earned_13 : decode cX12_earned 13 = .ok (.iload_n 1, 1) := by decide +kernel
theorem dX12_earned_14 : decode cX12_earned 14 = .ok (.invokevirtual 212, 3) := by decide +kernel
theorem dX12_earned_17 : decode cX12_earned 17 = .ok (.goto 4, 3) := by decide +kernel
theorem dX12_earned_20 : decode cX12_earned 20 = .ok (.iconst (-1), 1) := by decide +kernel
theorem dX12_earned_21 : decode cX12_earned 21 = .ok (.ireturn, 1) := by decide +kernel
theorem dX12_firstWith_0 : decode cX12_firstWith 0 = .ok (.aload_n 0, 1) := by decide +kernel
theorem dX12_firstWith_1 : decode cX12_firstWith 1 = .ok (.getfield 9, 3) := by decide +kernel
theorem dX12_firstWith_4 : decode cX12_firstWith 4 = .ok (.aload_n 0, 1) := by decide +kernel
theorem dX12_firstWith_5 : decode cX12_firstWith 5 = .ok (.getfield 16, 3) := by decide +kernel
theorem dX12_firstWith_8 : decode cX12_firstWith 8 = .ok (.invokestatic 169, 3) := by decide +kernel
theorem dX12_firstWith_11 : decode cX12_firstWith 11 = .ok (.bipush (-3), 2) := by decide +kernel
theorem dX12_firstWith_13 : decode cX12_firstWith 13 = .ok (.istore_n 3, 1) := by decide +kernel
theorem dX12_firstWith_14 : decode cX12_firstWith 14 = .ok (.iconst 0, 1) := by decide +kernel
theorem dX12_firstWith_15 : decode cX12_firstWith 15 = .ok (.istore 4, 2) := by decide +kernel
theorem dX12_firstWith_17 : decode cX12_firstWith 17 = .ok (.iload 4, 2) := by decide +kernel
theorem dX12_firstWith_19 : decode cX12_firstWith 19 = .ok (.bipush 60, 2) := by decide +kernel
theorem dX12_firstWith_21 : decode cX12_firstWith 21 = .ok (.if_icmp .gt 64, 3) := by decide +kernel
theorem dX12_firstWith_24 : decode cX12_firstWith 24 = .ok (.iload_n 3, 1) := by decide +kernel
theorem dX12_firstWith_25 : decode cX12_firstWith 25 = .ok (.bipush (-3), 2) := by decide +kernel
theorem dX12_firstWith_27 : decode cX12_firstWith 27 = .ok (.if_icmp .ne 58, 3) := by decide +kernel
theorem dX12_firstWith_30 : decode cX12_firstWith 30 = .ok (.aload_n 0, 1) := by decide +kernel
theorem dX12_firstWith_31 : decode cX12_firstWith 31 = .ok (.invokevirtual 203, 3) := by decide +kernel
theorem dX12_firstWith_34 : decode cX12_firstWith 34 = .ok (.ifCond .ne 7, 3) := by decide +kernel
theorem dX12_firstWith_37 : decode cX12_firstWith 37 = .ok (.iconst 1, 1) := by decide +kernel
theorem dX12_firstWith_38 : decode cX12_firstWith 38 = .ok (.goto 4, 3) := by decide +kernel
theorem dX12_firstWith_41 : decode cX12_firstWith 41 = .ok (.iconst 0, 1) := by decide +kernel
theorem dX12_firstWith_42 : decode cX12_firstWith 42 = .ok (.istore 5, 2) := by decide +kernel
theorem dX12_firstWith_44 : decode cX12_firstWith 44 = .ok (.iload_n 1, 1) := by decide +kernel
theorem dX12_firstWith_45 : decode cX12_firstWith 45 = .ok (.ifCond .ge 11, 3) := by decide +kernel
theorem dX12_firstWith_48 : decode cX12_firstWith 48 = .ok (.iload 5, 2) := by decide +kernel
theorem dX12_firstWith_50 : decode cX12_firstWith 50 = .ok (.ifCond .eq 21, 3) := by decide +kernel
theorem dX12_firstWith_53 : decode cX12_firstWith 53 = .ok (.goto 13, 3) := by decide +kernel
theorem dX12_firstWith_56 : decode cX12_firstWith 56 = .ok (.aload_n 0, 1) := by decide +kernel
theorem dX12_firstWith_57 : decode cX12_firstWith 57 = .ok (.getfield 25, 3) := by decide +kernel
theorem dX12_firstWith_60 : decode cX12_firstWith 60 = .ok (.iload_n 1, 1) := by decide +kernel
theorem dX12_firstWith_61 : decode cX12_firstWith 61 = .ok (.iaload, 1) := by decide +kernel
theorem dX12_firstWith_62 : decode cX12_firstWith 62 = .ok (.iload_n 2, 1) := by decide +kernel
theorem dX12_firstWith_63 : decode cX12_firstWith 63 = .ok (.if_icmp .ne 8, 3) := by decide +kernel
theorem dX12_firstWith_66 : decode cX12_firstWith 66 = .ok (.iload 4, 2) := by decide +kernel
theorem dX12_firstWith_68 : decode cX12_firstWith 68 = .ok (.goto 5, 3) := by decide +kernel
theorem dX12_firstWith_71 : decode cX12_firstWith 71 = .ok (.bipush (-3), 2) := by decide +kernel
theorem dX12_firstWith_73 : decode cX12_firstWith 73 = .ok (.istore_n 3, 1) := by decide +kernel
theorem dX12_firstWith_74 : decode cX12_firstWith 74 = .ok (.aload_n 0, 1) := by decide +kernel
theorem dX12_firstWith_75 : decode cX12_firstWith 75 = .ok (.iconst 1, 1) := by decide +kernel
theorem dX12_firstWith_76 : decode cX12_firstWith 76 = .ok (.invokevirtual 191, 3) := by decide +kernel
theorem dX12_firstWith_79 : decode cX12_firstWith 79 = .ok (.iinc 4 1, 3) := by decide +kernel
theorem dX12_firstWith_82 : decode cX12_firstWith 82 = .ok (.goto (-65), 3) := by decide +kernel
theorem dX12_firstWith_85 : decode cX12_firstWith 85 = .ok (.aload_n 0, 1) := by decide +kernel
theorem dX12_firstWith_86 : decode cX12_firstWith 86 = .ok (.getfield 16, 3) := by decide +kernel
theorem dX12_firstWith_89 : decode cX12_firstWith 89 = .ok (.aload_n 0, 1) := by decide +kernel
theorem dX12_firstWith_90 : decode cX12_firstWith 90 = .ok (.getfield 9, 3) := by decide +kernel
theorem dX12_firstWith_93 : decode cX12_firstWith 93 = .ok (.invokestatic 169, 3) := by decide +kernel
theorem dX12_firstWith_96 : decode cX12_firstWith 96 = .ok (.iload_n 3, 1) := by decide +kernel
theorem dX12_firstWith_97 : decode cX12_firstWith 97 = .ok (.ireturn, 1) := by decide +kernel
theorem dX12_plays_0 : decode cX12_plays 0 = .ok (.aload_n 0, 1) := by decide +kernel
theorem dX12_plays_1 : decode cX12_plays 1 = .ok (.iload_n 1, 1) := by decide +kernel
theorem dX12_plays_2 : decode cX12_plays 2 = .ok (.invokevirtual 188, 3) := by decide +kernel
theorem dX12_plays_5 : decode cX12_plays 5 = .ok (.ifCond .eq 19, 3) := by decide +kernel
theorem dX12_plays_8 : decode cX12_plays 8 = .ok (.iload_n 2, 1) := by decide +kernel
theorem dX12_plays_9 : decode cX12_plays 9 = .ok (.invokestatic 182, 3) := by decide +kernel
theorem dX12_plays_12 : decode cX12_plays 12 = .ok (.ifCond .eq 12, 3) := by decide +kernel
theorem dX12_plays_15 : decode cX12_plays 15 = .ok (.aload_n 0, 1) := by decide +kernel
theorem dX12_plays_16 : decode cX12_plays 16 = .ok (.iload_n 1, 1) := by decide +kernel
theorem dX12_plays_17 : decode cX12_plays 17 = .ok (.iload_n 2, 1) := by decide +kernel
theorem dX12_plays_18 : decode cX12_plays 18 = .ok (.invokevirtual 215, 3) := by decide +kernel
theorem dX12_plays_21 : decode cX12_plays 21 = .ok (.goto 4, 3) := by decide +kernel
theorem dX12_plays_24 : decode cX12_plays 24 = .ok (.iconst (-1), 1) := by decide +kernel
theorem dX12_plays_25 : decode cX12_plays 25 = .ok (.ireturn, 1) := by decide +kernel
theorem dX12_house_0 : decode cX12_house 0 = .ok (.aload_n 0, 1) := by decide +kernel
theorem dX12_house_1 : decode cX12_house 1 = .ok (.iconst (-1), 1) := by decide +kernel
theorem dX12_house_2 : decode cX12_house 2 = .ok (.iconst 0, 1) := by decide +kernel
theorem dX12_house_3 : decode cX12_house 3 = .ok (.invokevirtual 215, 3) := by decide +kernel
theorem dX12_house_6 : decode cX12_house 6 = .ok (.ireturn, 1) := by decide +kernel
theorem dX12_worst_0 : decode cX12_worst 0 = .ok (.aload_n 0, 1) := by decide +kernel
theorem dX12_worst_1 : decode cX12_worst 1 = .ok (.getfield 9, 3) := by decide +kernel
theorem dX12_worst_4 : decode cX12_worst 4 = .ok (.aload_n 0, 1) := by decide +kernel
theorem dX12_worst_5 : decode cX12_worst 5 = .ok (.getfield 16, 3) := by decide +kernel
theorem dX12_worst_8 : decode cX12_worst 8 = .ok (.invokestatic 169, 3) := by decide +kernel
theorem dX12_worst_11 : decode cX12_worst 11 = .ok (.bipush (-3), 2) := by decide +kernel
theorem dX12_worst_13 : decode cX12_worst 13 = .ok (.istore_n 1, 1) := by decide +kernel
theorem dX12_worst_14 : decode cX12_worst 14 = .ok (.aload_n 0, 1) := by decide +kernel
theorem dX12_worst_15 : decode cX12_worst 15 = .ok (.invokevirtual 102, 3) := by decide +kernel
theorem dX12_worst_18 : decode cX12_worst 18 = .ok (.istore_n 2, 1) := by decide +kernel
theorem dX12_worst_19 : decode cX12_worst 19 = .ok (.iconst 0, 1) := by decide +kernel
theorem dX12_worst_20 : decode cX12_worst 20 = .ok (.istore_n 3, 1) := by decide +kernel
theorem dX12_worst_21 : decode cX12_worst 21 = .ok (.iload_n 3, 1) := by decide +kernel
theorem dX12_worst_22 : decode cX12_worst 22 = .ok (.aload_n 0, 1) := by decide +kernel
theorem dX12_worst_23 : decode cX12_worst 23 = .ok (.getfield 9, 3) := by decide +kernel
theorem dX12_worst_26 : decode cX12_worst 26 = .ok (.bipush 6, 2) := by decide +kernel
theorem dX12_worst_28 : decode cX12_worst 28 = .ok (.iaload, 1) := by decide +kernel
theorem dX12_worst_29 : decode cX12_worst 29 = .ok (.if_icmp .ge 67, 3) := by decide +kernel
theorem dX12_worst_32 : decode cX12_worst 32 = .ok (.aload_n 0, 1) := by decide +kernel
theorem dX12_worst_33 : decode cX12_worst 33 = .ok (.iload_n 3, 1) := by decide +kernel
theorem dX12_worst_34 : decode cX12_worst 34 = .ok (.iconst 2, 1) := by decide +kernel
theorem dX12_worst_35 : decode cX12_worst 35 = .ok (.invokevirtual 67, 3) := by decide +kernel
theorem dX12_worst_38 : decode cX12_worst 38 = .ok (.ifCond .ne 52, 3) := by decide +kernel
theorem dX12_worst_41 : decode cX12_worst 41 = .ok (.aload_n 0, 1) := by decide +kernel
theorem dX12_worst_42 : decode cX12_worst 42 = .ok (.iload_n 3, 1) := by decide +kernel
theorem dX12_worst_43 : decode cX12_worst 43 = .ok (.iconst 2, 1) := by decide +kernel
theorem dX12_worst_44 : decode cX12_worst 44 = .ok (.iconst 1, 1) := by decide +kernel
theorem dX12_worst_45 : decode cX12_worst 45 = .ok (.invokevirtual 88, 3) := by decide +kernel
theorem dX12_worst_48 : decode cX12_worst 48 = .ok (.aload_n 0, 1) := by decide +kernel
theorem dX12_worst_49 : decode cX12_worst 49 = .ok (.invokevirtual 102, 3) := by decide +kernel
theorem dX12_worst_52 : decode cX12_worst 52 = .ok (.istore 4, 2) := by decide +kernel
theorem dX12_worst_54 : decode cX12_worst 54 = .ok (.aload_n 0, 1) := by decide +kernel
theorem dX12_worst_55 : decode cX12_worst 55 = .ok (.getfield 16, 3) := by decide +kernel
theorem dX12_worst_58 : decode cX12_worst 58 = .ok (.aload_n 0, 1) := by decide +kernel
theorem dX12_worst_59 : decode cX12_worst 59 = .ok (.getfield 9, 3) := by decide +kernel
theorem dX12_worst_62 : decode cX12_worst 62 = .ok (.invokestatic 169, 3) := by decide +kernel
theorem dX12_worst_65 : decode cX12_worst 65 = .ok (.iload 4, 2) := by decide +kernel
theorem dX12_worst_67 : decode cX12_worst 67 = .ok (.iload_n 2, 1) := by decide +kernel
theorem dX12_worst_68 : decode cX12_worst 68 = .ok (.if_icmp .ge 7, 3) := by decide +kernel
theorem dX12_worst_71 : decode cX12_worst 71 = .ok (.iload_n 3, 1) := by decide +kernel
theorem dX12_worst_72 : decode cX12_worst 72 = .ok (.goto 4, 3) := by decide +kernel
theorem dX12_worst_75 : decode cX12_worst 75 = .ok (.iload_n 1, 1) := by decide +kernel
theorem dX12_worst_76 : decode cX12_worst 76 = .ok (.istore_n 1, 1) := by decide +kernel
theorem dX12_worst_77 : decode cX12_worst 77 = .ok (.iload 4, 2) := by decide +kernel
theorem dX12_worst_79 : decode cX12_worst 79 = .ok (.iload_n 2, 1) := by decide +kernel
theorem dX12_worst_80 : decode cX12_worst 80 = .ok (.if_icmp .ge 8, 3) := by decide +kernel
theorem dX12_worst_83 : decode cX12_worst 83 = .ok (.iload 4, 2) := by decide +kernel
theorem dX12_worst_85 : decode cX12_worst 85 = .ok (.goto 4, 3) := by decide +kernel
theorem dX12_worst_88 : decode cX12_worst 88 = .ok (.iload_n 2, 1) := by decide +kernel
theorem dX12_worst_89 : decode cX12_worst 89 = .ok (.istore_n 2, 1) := by decide +kernel
theorem dX12_worst_90 : decode cX12_worst 90 = .ok (.iinc 3 1, 3) := by decide +kernel
theorem dX12_worst_93 : decode cX12_worst 93 = .ok (.goto (-72), 3) := by decide +kernel
theorem dX12_worst_96 : decode cX12_worst 96 = .ok (.iload_n 1, 1) := by decide +kernel
theorem dX12_worst_97 : decode cX12_worst 97 = .ok (.ireturn, 1) := by decide +kernel
theorem dX12_isSoon_0 : decode cX12_isSoon 0 = .ok (.iload_n 0, 1) := by decide +kernel
theorem dX12_isSoon_1 : decode cX12_isSoon 1 = .ok (.iconst 1, 1) := by decide +kernel
theorem dX12_isSoon_2 : decode cX12_isSoon 2 = .ok (.bipush 30, 2) := by decide +kernel
theorem dX12_isSoon_4 : decode cX12_isSoon 4 = .ok (.invokestatic 63, 3) := by decide +kernel
theorem dX12_isSoon_7 : decode cX12_isSoon 7 = .ok (.ireturn, 1) := by decide +kernel
theorem dX12_takenBy_0 : decode cX12_takenBy 0 = .ok (.aload_n 0, 1) := by decide +kernel
theorem dX12_takenBy_1 : decode cX12_takenBy 1 = .ok (.iload_n 1, 1) := by decide +kernel
theorem dX12_takenBy_2 : decode cX12_takenBy 2 = .ok (.invokevirtual 191, 3) := by decide +kernel
theorem dX12_takenBy_5 : decode cX12_takenBy 5 = .ok (.aload_n 0, 1) := by decide +kernel
theorem dX12_takenBy_6 : decode cX12_takenBy 6 = .ok (.getfield 9, 3) := by decide +kernel
theorem dX12_takenBy_9 : decode cX12_takenBy 9 = .ok (.bipush 7, 2) := by decide +kernel
theorem dX12_takenBy_11 : decode cX12_takenBy 11 = .ok (.iaload, 1) := by decide +kernel
theorem dX12_takenBy_12 : decode cX12_takenBy 12 = .ok (.istore_n 2, 1) := by decide +kernel
theorem dX12_takenBy_13 : decode cX12_takenBy 13 = .ok (.aload_n 0, 1) := by decide +kernel
theorem dX12_takenBy_14 : decode cX12_takenBy 14 = .ok (.getfield 16, 3) := by decide +kernel
theorem dX12_takenBy_17 : decode cX12_takenBy 17 = .ok (.aload_n 0, 1) := by decide +kernel
theorem dX12_takenBy_18 : decode cX12_takenBy 18 = .ok (.getfield 9, 3) := by decide +kernel
theorem dX12_takenBy_21 : decode cX12_takenBy 21 = .ok (.invokestatic 169, 3) := by decide +kernel
theorem dX12_takenBy_24 : decode cX12_takenBy 24 = .ok (.iload_n 2, 1) := by decide +kernel
theorem dX12_takenBy_25 : decode cX12_takenBy 25 = .ok (.ireturn, 1) := by decide +kernel
theorem dX12_kindFor_0 : decode cX12_kindFor 0 = .ok (.aload_n 0, 1) := by decide +kernel
theorem dX12_kindFor_1 : decode cX12_kindFor 1 = .ok (.iload_n 1, 1) := by decide +kernel
theorem dX12_kindFor_2 : decode cX12_kindFor 2 = .ok (.invokevirtual 188, 3) := by decide +kernel
theorem dX12_kindFor_5 : decode cX12_kindFor 5 = .ok (.ifCond .eq 10, 3) := by decide +kernel
theorem dX12_kindFor_8 : decode cX12_kindFor 8 = .ok (.iload_n 2, 1) := by decide +kernel
theorem dX12_kindFor_9 : decode cX12_kindFor 9 = .ok (.invokestatic 218, 3) := by decide +kernel
theorem dX12_kindFor_12 : decode cX12_kindFor 12 = .ok (.ifCond .ne 5, 3) := by decide +kernel
theorem dX12_kindFor_15 : decode cX12_kindFor 15 = .ok (.iconst (-1), 1) := by decide +kernel
theorem dX12_kindFor_16 : decode cX12_kindFor 16 = .ok (.ireturn, 1) := by decide +kernel
theorem dX12_kindFor_17 : decode cX12_kindFor 17 = .ok (.aload_n 0, 1) := by decide +kernel
theorem dX12_kindFor_18 : decode cX12_kindFor 18 = .ok (.getfield 9, 3) := by decide +kernel
theorem dX12_kindFor_21 : decode cX12_kindFor 21 = .ok (.aload_n 0, 1) := by decide +kernel
theorem dX12_kindFor_22 : decode cX12_kindFor 22 = .ok (.getfield 16, 3) := by decide +kernel
theorem dX12_kindFor_25 : decode cX12_kindFor 25 = .ok (.invokestatic 169, 3) := by decide +kernel
theorem dX12_kindFor_28 : decode cX12_kindFor 28 = .ok (.iconst 0, 1) := by decide +kernel
theorem dX12_kindFor_29 : decode cX12_kindFor 29 = .ok (.istore_n 3, 1) := by decide +kernel
theorem dX12_kindFor_30 : decode cX12_kindFor 30 = .ok (.iconst (-1), 1) := by decide +kernel
theorem dX12_kindFor_31 : decode cX12_kindFor 31 = .ok (.istore 4, 2) := by decide +kernel
theorem dX12_kindFor_33 : decode cX12_kindFor 33 = .ok (.iconst 0, 1) := by decide +kernel
theorem dX12_kindFor_34 : decode cX12_kindFor 34 = .ok (.istore 5, 2) := by decide +kernel
theorem dX12_kindFor_36 : decode cX12_kindFor 36 = .ok (.iload 5, 2) := by decide +kernel
theorem dX12_kindFor_38 : decode cX12_kindFor 38 = .ok (.bipush 6, 2) := by decide +kernel
theorem dX12_kindFor_40 : decode cX12_kindFor 40 = .ok (.if_icmp .ge 54, 3) := by decide +kernel
theorem dX12_kindFor_43 : decode cX12_kindFor 43 = .ok (.aload_n 0, 1) := by decide +kernel
theorem dX12_kindFor_44 : decode cX12_kindFor 44 = .ok (.iload_n 1, 1) := by decide +kernel
theorem dX12_kindFor_45 : decode cX12_kindFor 45 = .ok (.iconst 0, 1) := by decide +kernel
theorem dX12_kindFor_46 : decode cX12_kindFor 46 = .ok (.iload 5, 2) := by decide +kernel
theorem dX12_kindFor_48 : decode cX12_kindFor 48 = .ok (.invokevirtual 88, 3) := by decide +kernel
theorem dX12_kindFor_51 : decode cX12_kindFor 51 = .ok (.aload_n 0, 1) := by decide +kernel
theorem dX12_kindFor_52 : decode cX12_kindFor 52 = .ok (.iload_n 2, 1) := by decide +kernel
theorem dX12_kindFor_53 : decode cX12_kindFor 53 = .ok (.invokevirtual 221, 3) := by decide +kernel
theorem dX12_kindFor_56 : decode cX12_kindFor 56 = .ok (.istore 6, 2) := by decide +kernel
theorem dX12_kindFor_58 : decode cX12_kindFor 58 = .ok (.iload 6, 2) := by decide +kernel
theorem dX12_kindFor_60 : decode cX12_kindFor 60 = .ok (.iload 4, 2) := by decide +kernel
theorem dX12_kindFor_62 : decode cX12_kindFor 62 = .ok (.if_icmp .le 8, 3) := by decide +kernel
theorem dX12_kindFor_65 : decode cX12_kindFor 65 = .ok (.iload 5, 2) := by decide +kernel
theorem dX12_kindFor_67 : decode cX12_kindFor 67 = .ok (.goto 4, 3) := by decide +kernel
theorem dX12_kindFor_70 : decode cX12_kindFor 70 = .ok (.iload_n 3, 1) := by decide +kernel
theorem dX12_kindFor_71 : decode cX12_kindFor 71 = .ok (.istore_n 3, 1) := by decide +kernel
theorem dX12_kindFor_72 : decode cX12_kindFor 72 = .ok (.iload 6, 2) := by decide +kernel
theorem dX12_kindFor_74 : decode cX12_kindFor 74 = .ok (.iload 4, 2) := by decide +kernel
theorem dX12_kindFor_76 : decode cX12_kindFor 76 = .ok (.if_icmp .le 8, 3) := by decide +kernel
theorem dX12_kindFor_79 : decode cX12_kindFor 79 = .ok (.iload 6, 2) := by decide +kernel
theorem dX12_kindFor_81 : decode cX12_kindFor 81 = .ok (.goto 5, 3) := by decide +kernel
theorem dX12_kindFor_84 : decode cX12_kindFor 84 = .ok (.iload 4, 2) := by decide +kernel
theorem dX12_kindFor_86 : decode cX12_kindFor 86 = .ok (.istore 4, 2) := by decide +kernel
theorem dX12_kindFor_88 : decode cX12_kindFor 88 = .ok (.iinc 5 1, 3) := by decide +kernel
theorem dX12_kindFor_91 : decode cX12_kindFor 91 = .ok (.goto (-55), 3) := by decide +kernel
theorem dX12_kindFor_94 : decode cX12_kindFor 94 = .ok (.iload_n 3, 1) := by decide +kernel
theorem dX12_kindFor_95 : decode cX12_kindFor 95 = .ok (.ireturn, 1) := by decide +kernel
theorem dX12_enoughFor_0 : decode cX12_enoughFor 0 = .ok (.aload_n 0, 1) := by decide +kernel
theorem dX12_enoughFor_1 : decode cX12_enoughFor 1 = .ok (.iload_n 1, 1) := by decide +kernel
theorem dX12_enoughFor_2 : decode cX12_enoughFor 2 = .ok (.invokevirtual 188, 3) := by decide +kernel
theorem dX12_enoughFor_5 : decode cX12_enoughFor 5 = .ok (.ifCond .eq 10, 3) := by decide +kernel
theorem dX12_enoughFor_8 : decode cX12_enoughFor 8 = .ok (.iload_n 2, 1) := by decide +kernel
theorem dX12_enoughFor_9 : decode cX12_enoughFor 9 = .ok (.invokestatic 182, 3) := by decide +kernel
theorem dX12_enoughFor_12 : decode cX12_enoughFor 12 = .ok (.ifCond .ne 5, 3) := by decide +kernel
theorem dX12_enoughFor_15 : decode cX12_enoughFor 15 = .ok (.iconst (-1), 1) := by decide +kernel
theorem dX12_enoughFor_16 : decode cX12_enoughFor 16 = .ok (.ireturn, 1) := by decide +kernel
theorem dX12_enoughFor_17 : decode cX12_enoughFor 17 = .ok (.aload_n 0, 1) := by decide +kernel
theorem dX12_enoughFor_18 : decode cX12_enoughFor 18 = .ok (.getfield 9, 3) := by decide +kernel
theorem dX12_enoughFor_21 : decode cX12_enoughFor 21 = .ok (.aload_n 0, 1) := by decide +kernel
theorem dX12_enoughFor_22 : decode cX12_enoughFor 22 = .ok (.getfield 16, 3) := by decide +kernel
theorem dX12_enoughFor_25 : decode cX12_enoughFor 25 = .ok (.invokestatic 169, 3) := by decide +kernel
theorem dX12_enoughFor_28 : decode cX12_enoughFor 28 = .ok (.bipush (-3), 2) := by decide +kernel
theorem dX12_enoughFor_30 : decode cX12_enoughFor 30 = .ok (.istore_n 3, 1) := by decide +kernel
theorem dX12_enoughFor_31 : decode cX12_enoughFor 31 = .ok (.iconst 0, 1) := by decide +kernel
theorem dX12_enoughFor_32 : decode cX12_enoughFor 32 = .ok (.istore 4, 2) := by decide +kernel
theorem dX12_enoughFor_34 : decode cX12_enoughFor 34 = .ok (.iload 4, 2) := by decide +kernel
theorem dX12_enoughFor_36 : decode cX12_enoughFor 36 = .ok (.bipush 99, 2) := by decide +kernel
theorem dX12_enoughFor_38 : decode cX12_enoughFor 38 = .ok (.if_icmp .gt 47, 3) := by decide +kernel
theorem dX12_enoughFor_41 : decode cX12_enoughFor 41 = .ok (.iload_n 3, 1) := by decide +kernel
theorem dX12_enoughFor_42 : decode cX12_enoughFor 42 = .ok (.bipush (-3), 2) := by decide +kernel
theorem dX12_enoughFor_44 : decode cX12_enoughFor 44 = .ok (.if_icmp .ne 41, 3) := by decide +kernel
theorem dX12_enoughFor_47 : decode cX12_enoughFor 47 = .ok (.aload_n 0, 1) := by decide +kernel
theorem dX12_enoughFor_48 : decode cX12_enoughFor 48 = .ok (.iload_n 1, 1) := by decide +kernel
theorem dX12_enoughFor_49 : decode cX12_enoughFor 49 = .ok (.iconst 3, 1) := by decide +kernel
theorem dX12_enoughFor_50 : decode cX12_enoughFor 50 = .ok (.iload_n 2, 1) := by decide +kernel
theorem dX12_enoughFor_51 : decode cX12_enoughFor 51 = .ok (.iadd, 1) := by decide +kernel
theorem dX12_enoughFor_52 : decode cX12_enoughFor 52 = .ok (.iload 4, 2) := by decide +kernel
theorem dX12_enoughFor_54 : decode cX12_enoughFor 54 = .ok (.invokevirtual 88, 3) := by decide +kernel
theorem dX12_enoughFor_57 : decode cX12_enoughFor 57 = .ok (.aload_n 0, 1) := by decide +kernel
theorem dX12_enoughFor_58 : decode cX12_enoughFor 58 = .ok (.invokevirtual 78, 3) := by decide +kernel
theorem dX12_enoughFor_61 : decode cX12_enoughFor 61 = .ok (.aload_n 0, 1) := by decide +kernel
theorem dX12_enoughFor_62 : decode cX12_enoughFor 62 = .ok (.getfield 25, 3) := by decide +kernel
theorem dX12_enoughFor_65 : decode cX12_enoughFor 65 = .ok (.iload_n 1, 1) := by decide +kernel
theorem dX12_enoughFor_66 : decode cX12_enoughFor 66 = .ok (.iaload, 1) := by decide +kernel
theorem dX12_enoughFor_67 : decode cX12_enoughFor 67 = .ok (.iload_n 2, 1) := by decide +kernel
theorem dX12_enoughFor_68 : decode cX12_enoughFor 68 = .ok (.if_icmp .ne 8, 3) := by decide +kernel
theorem dX12_enoughFor_71 : decode cX12_enoughFor 71 = .ok (.iload 4, 2) := by decide +kernel
theorem dX12_enoughFor_73 : decode cX12_enoughFor 73 = .ok (.goto 5, 3) := by decide +kernel
theorem dX12_enoughFor_76 : decode cX12_enoughFor 76 = .ok (.bipush (-3), 2) := by decide +kernel
theorem dX12_enoughFor_78 : decode cX12_enoughFor 78 = .ok (.istore_n 3, 1) := by decide +kernel
theorem dX12_enoughFor_79 : decode cX12_enoughFor 79 = .ok (.iinc 4 1, 3) := by decide +kernel
theorem dX12_enoughFor_82 : decode cX12_enoughFor 82 = .ok (.goto (-48), 3) := by decide +kernel
theorem dX12_enoughFor_85 : decode cX12_enoughFor 85 = .ok (.aload_n 0, 1) := by decide +kernel
theorem dX12_enoughFor_86 : decode cX12_enoughFor 86 = .ok (.getfield 16, 3) := by decide +kernel
theorem dX12_enoughFor_89 : decode cX12_enoughFor 89 = .ok (.aload_n 0, 1) := by decide +kernel
theorem dX12_enoughFor_90 : decode cX12_enoughFor 90 = .ok (.getfield 9, 3) := by decide +kernel
theorem dX12_enoughFor_93 : decode cX12_enoughFor 93 = .ok (.invokestatic 169, 3) := by decide +kernel
theorem dX12_enoughFor_96 : decode cX12_enoughFor 96 = .ok (.iload_n 3, 1) := by decide +kernel
theorem dX12_enoughFor_97 : decode cX12_enoughFor 97 = .ok (.ireturn, 1) := by decide +kernel
theorem dX12_learnerFor_0 : decode cX12_learnerFor 0 = .ok (.iload_n 1, 1) := by decide +kernel
theorem dX12_learnerFor_1 : decode cX12_learnerFor 1 = .ok (.invokestatic 182, 3) := by decide +kernel
theorem dX12_learnerFor_4 : decode cX12_learnerFor 4 = .ok (.ifCond .eq 10, 3) := by decide +kernel
theorem dX12_learnerFor_7 : decode cX12_learnerFor 7 = .ok (.iload_n 2, 1) := by decide +kernel
theorem dX12_learnerFor_8 : decode cX12_learnerFor 8 = .ok (.invokestatic 218, 3) := by decide +kernel
theorem dX12_learnerFor_11 : decode cX12_learnerFor 11 = .ok (.ifCond .ne 5, 3) := by decide +kernel
theorem dX12_learnerFor_14 : decode cX12_learnerFor 14 = .ok (.iconst (-1), 1) := by decide +kernel
theorem dX12_learnerFor_15 : decode cX12_learnerFor 15 = .ok (.ireturn, 1) := by decide +kernel
theorem dX12_learnerFor_16 : decode cX12_learnerFor 16 = .ok (.aload_n 0, 1) := by decide +kernel
theorem dX12_learnerFor_17 : decode cX12_learnerFor 17 = .ok (.getfield 9, 3) := by decide +kernel
theorem dX12_learnerFor_20 : decode cX12_learnerFor 20 = .ok (.aload_n 0, 1) := by decide +kernel
theorem dX12_learnerFor_21 : decode cX12_learnerFor 21 = .ok (.getfield 16, 3) := by decide +kernel
theorem dX12_learnerFor_24 : decode cX12_learnerFor 24 = .ok (.invokestatic 169, 3) := by decide +kernel
theorem dX12_learnerFor_27 : decode cX12_learnerFor 27 = .ok (.bipush (-3), 2) := by decide +kernel
theorem dX12_learnerFor_29 : decode cX12_learnerFor 29 = .ok (.istore_n 3, 1) := by decide +kernel
theorem dX12_learnerFor_30 : decode cX12_learnerFor 30 = .ok (.aload_n 0, 1) := by decide +kernel
theorem dX12_learnerFor_31 : decode cX12_learnerFor 31 = .ok (.iload_n 2, 1) := by decide +kernel
theorem dX12_learnerFor_32 : decode cX12_learnerFor 32 = .ok (.invokevirtual 221, 3) := by decide +kernel
theorem dX12_learnerFor_35 : decode cX12_learnerFor 35 = .ok (.istore 4, 2) := by decide +kernel
theorem dX12_learnerFor_37 : decode cX12_learnerFor 37 = .ok (.iconst 0, 1) := by decide +kernel
theorem dX12_learnerFor_38 : decode cX12_learnerFor 38 = .ok (.istore 5, 2) := by decide +kernel
theorem dX12_learnerFor_40 : decode cX12_learnerFor 40 = .ok (.iload 5, 2) := by decide +kernel
theorem dX12_learnerFor_42 : decode cX12_learnerFor 42 = .ok (.aload_n 0, 1) := by decide +kernel
theorem dX12_learnerFor_43 : decode cX12_learnerFor 43 = .ok (.getfield 9, 3) := by decide +kernel
theorem dX12_learnerFor_46 : decode cX12_learnerFor 46 = .ok (.bipush 6, 2) := by decide +kernel
theorem dX12_learnerFor_48 : decode cX12_learnerFor 48 = .ok (.iaload, 1) := by decide +kernel
theorem dX12_learnerFor_49 : decode cX12_learnerFor 49 = .ok (.if_icmp .ge 57, 3) := by decide +kernel
theorem dX12_learnerFor_52 : decode cX12_learnerFor 52 = .ok (.aload_n 0, 1) := by decide +kernel
theorem dX12_learnerFor_53 : decode cX12_learnerFor 53 = .ok (.iload 5, 2) := by decide +kernel
theorem dX12_learnerFor_55 : decode cX12_learnerFor 55 = .ok (.iconst 3, 1) := by decide +kernel
theorem dX12_learnerFor_56 : decode cX12_learnerFor 56 = .ok (.iload_n 1, 1) := by decide +kernel
theorem dX12_learnerFor_57 : decode cX12_learnerFor 57 = .ok (.iadd, 1) := by decide +kernel
theorem dX12_learnerFor_58 : decode cX12_learnerFor 58 = .ok (.bipush 99, 2) := by decide +kernel
theorem dX12_learnerFor_60 : decode cX12_learnerFor 60 = .ok (.invokevirtual 88, 3) := by decide +kernel
theorem dX12_learnerFor_63 : decode cX12_learnerFor 63 = .ok (.aload_n 0, 1) := by decide +kernel
theorem dX12_learnerFor_64 : decode cX12_learnerFor 64 = .ok (.iload_n 2, 1) := by decide +kernel
theorem dX12_learnerFor_65 : decode cX12_learnerFor 65 = .ok (.invokevirtual 221, 3) := by decide +kernel
theorem dX12_learnerFor_68 : decode cX12_learnerFor 68 = .ok (.istore 6, 2) := by decide +kernel
theorem dX12_learnerFor_70 : decode cX12_learnerFor 70 = .ok (.iload 6, 2) := by decide +kernel
theorem dX12_learnerFor_72 : decode cX12_learnerFor 72 = .ok (.iload 4, 2) := by decide +kernel
theorem dX12_learnerFor_74 : decode cX12_learnerFor 74 = .ok (.if_icmp .le 8, 3) := by decide +kernel
theorem dX12_learnerFor_77 : decode cX12_learnerFor 77 = .ok (.iload 5, 2) := by decide +kernel
theorem dX12_learnerFor_79 : decode cX12_learnerFor 79 = .ok (.goto 4, 3) := by decide +kernel
theorem dX12_learnerFor_82 : decode cX12_learnerFor 82 = .ok (.iload_n 3, 1) := by decide +kernel
theorem dX12_learnerFor_83 : decode cX12_learnerFor 83 = .ok (.istore_n 3, 1) := by decide +kernel
theorem dX12_learnerFor_84 : decode cX12_learnerFor 84 = .ok (.iload 6, 2) := by decide +kernel
theorem dX12_learnerFor_86 : decode cX12_learnerFor 86 = .ok (.iload 4, 2) := by decide +kernel
theorem dX12_learnerFor_88 : decode cX12_learnerFor 88 = .ok (.if_icmp .le 8, 3) := by decide +kernel
theorem dX12_learnerFor_91 : decode cX12_learnerFor 91 = .ok (.iload 6, 2) := by decide +kernel
theorem dX12_learnerFor_93 : decode cX12_learnerFor 93 = .ok (.goto 5, 3) := by decide +kernel
theorem dX12_learnerFor_96 : decode cX12_learnerFor 96 = .ok (.iload 4, 2) := by decide +kernel
theorem dX12_learnerFor_98 : decode cX12_learnerFor 98 = .ok (.istore 4, 2) := by decide +kernel
theorem dX12_learnerFor_100 : decode cX12_learnerFor 100 = .ok (.iinc 5 1, 3) := by decide +kernel
theorem dX12_learnerFor_103 : decode cX12_learnerFor 103 = .ok (.goto (-63), 3) := by decide +kernel
theorem dX12_learnerFor_106 : decode cX12_learnerFor 106 = .ok (.iload_n 3, 1) := by decide +kernel
theorem dX12_learnerFor_107 : decode cX12_learnerFor 107 = .ok (.ireturn, 1) := by decide +kernel
theorem dX12_showOf_0 : decode cX12_showOf 0 = .ok (.iconst 0, 1) := by decide +kernel
theorem dX12_showOf_1 : decode cX12_showOf 1 = .ok (.istore_n 2, 1) := by decide +kernel
theorem dX12_showOf_2 : decode cX12_showOf 2 = .ok (.iload_n 2, 1) := by decide +kernel
theorem dX12_showOf_3 : decode cX12_showOf 3 = .ok (.aload_n 0, 1) := by decide +kernel
theorem dX12_showOf_4 : decode cX12_showOf 4 = .ok (.getfield 9, 3) := by decide +kernel
theorem dX12_showOf_7 : decode cX12_showOf 7 = .ok (.bipush 6, 2) := by decide +kernel
theorem dX12_showOf_9 : decode cX12_showOf 9 = .ok (.iaload, 1) := by decide +kernel
theorem dX12_showOf_10 : decode cX12_showOf 10 = .ok (.if_icmp .ge 29, 3) := by decide +kernel
theorem dX12_showOf_13 : decode cX12_showOf 13 = .ok (.aload_n 0, 1) := by decide +kernel
theorem dX12_showOf_14 : decode cX12_showOf 14 = .ok (.iload_n 2, 1) := by decide +kernel
theorem dX12_showOf_15 : decode cX12_showOf 15 = .ok (.iconst 2, 1) := by decide +kernel
theorem dX12_showOf_16 : decode cX12_showOf 16 = .ok (.iload_n 1, 1) := by decide +kernel
theorem dX12_showOf_17 : decode cX12_showOf 17 = .ok (.iload_n 2, 1) := by decide +kernel
theorem dX12_showOf_18 : decode cX12_showOf 18 = .ok (.ishr, 1) := by decide +kernel
theorem dX12_showOf_19 : decode cX12_showOf 19 = .ok (.iconst 1, 1) := by decide +kernel
theorem dX12_showOf_20 : decode cX12_showOf 20 = .ok (.iand, 1) := by decide +kernel
theorem dX12_showOf_21 : decode cX12_showOf 21 = .ok (.iconst 1, 1) := by decide +kernel
theorem dX12_showOf_22 : decode cX12_showOf 22 = .ok (.if_icmp .ne 7, 3) := by decide +kernel
theorem dX12_showOf_25 : decode cX12_showOf 25 = .ok (.iconst 0, 1) := by decide +kernel
theorem dX12_showOf_26 : decode cX12_showOf 26 = .ok (.goto 4, 3) := by decide +kernel
theorem dX12_showOf_29 : decode cX12_showOf 29 = .ok (.iconst 1, 1) := by decide +kernel
theorem dX12_showOf_30 : decode cX12_showOf 30 = .ok (.invokevirtual 88, 3) := by decide +kernel
theorem dX12_showOf_33 : decode cX12_showOf 33 = .ok (.iinc 2 1, 3) := by decide +kernel
theorem dX12_showOf_36 : decode cX12_showOf 36 = .ok (.goto (-34), 3) := by decide +kernel
theorem dX12_showOf_39 : decode cX12_showOf 39 = .ok (.aload_n 0, 1) := by decide +kernel
theorem dX12_showOf_40 : decode cX12_showOf 40 = .ok (.invokevirtual 102, 3) := by decide +kernel
theorem dX12_showOf_43 : decode cX12_showOf 43 = .ok (.istore_n 2, 1) := by decide +kernel
theorem dX12_showOf_44 : decode cX12_showOf 44 = .ok (.aload_n 0, 1) := by decide +kernel
theorem dX12_showOf_45 : decode cX12_showOf 45 = .ok (.getfield 16, 3) := by decide +kernel
theorem dX12_showOf_48 : decode cX12_showOf 48 = .ok (.aload_n 0, 1) := by decide +kernel
theorem dX12_showOf_49 : decode cX12_showOf 49 = .ok (.getfield 9, 3) := by decide +kernel
theorem dX12_showOf_52 : decode cX12_showOf 52 = .ok (.invokestatic 169, 3) := by decide +kernel
theorem dX12_showOf_55 : decode cX12_showOf 55 = .ok (.iload_n 2, 1) := by decide +kernel
theorem dX12_showOf_56 : decode cX12_showOf 56 = .ok (.ireturn, 1) := by decide +kernel
theorem dX12_fewestFor_0 : decode cX12_fewestFor 0 = .ok (.iload_n 1, 1) := by decide +kernel
theorem dX12_fewestFor_1 : decode cX12_fewestFor 1 = .ok (.iconst 0, 1) := by decide +kernel
theorem dX12_fewestFor_2 : decode cX12_fewestFor 2 = .ok (.sipush 9999, 3) := by decide +kernel
theorem dX12_fewestFor_5 : decode cX12_fewestFor 5 = .ok (.invokestatic 63, 3) := by decide +kernel
theorem dX12_fewestFor_8 : decode cX12_fewestFor 8 = .ok (.ifCond .ne 5, 3) := by decide +kernel
theorem dX12_fewestFor_11 : decode cX12_fewestFor 11 = .ok (.iconst (-1), 1) := by decide +kernel
theorem dX12_fewestFor_12 : decode cX12_fewestFor 12 = .ok (.ireturn, 1) := by decide +kernel
theorem dX12_fewestFor_13 : decode cX12_fewestFor 13 = .ok (.aload_n 0, 1) := by decide +kernel
theorem dX12_fewestFor_14 : decode cX12_fewestFor 14 = .ok (.getfield 9, 3) := by decide +kernel
theorem dX12_fewestFor_17 : decode cX12_fewestFor 17 = .ok (.aload_n 0, 1) := by decide +kernel
theorem dX12_fewestFor_18 : decode cX12_fewestFor 18 = .ok (.getfield 16, 3) := by decide +kernel
theorem dX12_fewestFor_21 : decode cX12_fewestFor 21 = .ok (.invokestatic 169, 3) := by decide +kernel
theorem dX12_fewestFor_24 : decode cX12_fewestFor 24 = .ok (.aload_n 0, 1) := by decide +kernel
theorem dX12_fewestFor_25 : decode cX12_fewestFor 25 = .ok (.invokevirtual 206, 3) := by decide +kernel
theorem dX12_fewestFor_28 : decode cX12_fewestFor 28 = .ok (.istore_n 2, 1) := by decide +kernel
theorem dX12_fewestFor_29 : decode cX12_fewestFor 29 = .ok (.bipush (-3), 2) := by decide +kernel
theorem dX12_fewestFor_31 : decode cX12_fewestFor 31 = .ok (.istore_n 3, 1) := by decide +kernel
theorem dX12_fewestFor_32 : decode cX12_fewestFor 32 = .ok (.iconst 0, 1) := by decide +kernel
theorem dX12_fewestFor_33 : decode cX12_fewestFor 33 = .ok (.istore 4, 2) := by decide +kernel
theorem dX12_fewestFor_35 : decode cX12_fewestFor 35 = .ok (.iload 4, 2) := by decide +kernel
theorem dX12_fewestFor_37 : decode cX12_fewestFor 37 = .ok (.iconst 1, 1) := by decide +kernel
theorem dX12_fewestFor_38 : decode cX12_fewestFor 38 = .ok (.aload_n 0, 1) := by decide +kernel
theorem dX12_fewestFor_39 : decode cX12_fewestFor 39 = .ok (.getfield 9, 3) := by decide +kernel
theorem dX12_fewestFor_42 : decode cX12_fewestFor 42 = .ok (.bipush 6, 2) := by decide +kernel
theorem dX12_fewestFor_44 : decode cX12_fewestFor 44 = .ok (.iaload, 1) := by decide +kernel
theorem dX12_fewestFor_45 : decode cX12_fewestFor 45 = .ok (.ishl, 1) := by decide +kernel
theorem dX12_fewestFor_46 : decode cX12_fewestFor 46 = .ok (.if_icmp .ge 61, 3) := by decide +kernel
theorem dX12_fewestFor_49 : decode cX12_fewestFor 49 = .ok (.iload 4, 2) := by decide +kernel
theorem dX12_fewestFor_51 : decode cX12_fewestFor 51 = .ok (.iload_n 2, 1) := by decide +kernel
theorem dX12_fewestFor_52 : decode cX12_fewestFor 52 = .ok (.iand, 1) := by decide +kernel
theorem dX12_fewestFor_53 : decode cX12_fewestFor 53 = .ok (.ifCond .ne 23, 3) := by decide +kernel
theorem dX12_fewestFor_56 : decode cX12_fewestFor 56 = .ok (.iload_n 3, 1) := by decide +kernel
theorem dX12_fewestFor_57 : decode cX12_fewestFor 57 = .ok (.ifCond .lt 15, 3) := by decide +kernel
theorem dX12_fewestFor_60 : decode cX12_fewestFor 60 = .ok (.iload 4, 2) := by decide +kernel
theorem dX12_fewestFor_62 : decode cX12_fewestFor 62 = .ok (.invokestatic 224, 3) := by decide +kernel
theorem dX12_fewestFor_65 : decode cX12_fewestFor 65 = .ok (.iload_n 3, 1) := by decide +kernel
theorem dX12_fewestFor_66 : decode cX12_fewestFor 66 = .ok (.invokestatic 224, 3) := by decide +kernel
theorem dX12_fewestFor_69 : decode cX12_fewestFor 69 = .ok (.if_icmp .ge 7, 3) := by decide +kernel
theorem dX12_fewestFor_72 : decode cX12_fewestFor 72 = .ok (.iconst 1, 1) := by decide +kernel
theorem dX12_fewestFor_73 : decode cX12_fewestFor 73 = .ok (.goto 4, 3) := by decide +kernel
theorem dX12_fewestFor_76 : decode cX12_fewestFor 76 = .ok (.iconst 0, 1) := by decide +kernel
theorem dX12_fewestFor_77 : decode cX12_fewestFor 77 = .ok (.istore 5, 2) := by decide +kernel
theorem dX12_fewestFor_79 : decode cX12_fewestFor 79 = .ok (.iload 5, 2) := by decide +kernel
theorem dX12_fewestFor_81 : decode cX12_fewestFor 81 = .ok (.ifCond .eq 18, 3) := by decide +kernel
theorem dX12_fewestFor_84 : decode cX12_fewestFor 84 = .ok (.aload_n 0, 1) := by decide +kernel
theorem dX12_fewestFor_85 : decode cX12_fewestFor 85 = .ok (.iload 4, 2) := by decide +kernel
theorem dX12_fewestFor_87 : decode cX12_fewestFor 87 = .ok (.invokevirtual 227, 3) := by decide +kernel
theorem dX12_fewestFor_90 : decode cX12_fewestFor 90 = .ok (.iload_n 1, 1) := by decide +kernel
theorem dX12_fewestFor_91 : decode cX12_fewestFor 91 = .ok (.if_icmp .lt 8, 3) := by decide +kernel
theorem dX12_fewestFor_94 : decode cX12_fewestFor 94 = .ok (.iload 4, 2) := by decide +kernel
theorem dX12_fewestFor_96 : decode cX12_fewestFor 96 = .ok (.goto 4, 3) := by decide +kernel
theorem dX12_fewestFor_99 : decode cX12_fewestFor 99 = .ok (.iload_n 3, 1) := by decide +kernel
theorem dX12_fewestFor_100 : decode cX12_fewestFor 100 = .ok (.istore_n 3, 1) := by decide +kernel
theorem dX12_fewestFor_101 : decode cX12_fewestFor 101 = .ok (.iinc 4 1, 3) := by decide +kernel
theorem dX12_fewestFor_104 : decode cX12_fewestFor 104 = .ok (.goto (-69), 3) := by decide +kernel
theorem dX12_fewestFor_107 : decode cX12_fewestFor 107 = .ok (.iload_n 3, 1) := by decide +kernel
theorem dX12_fewestFor_108 : decode cX12_fewestFor 108 = .ok (.ireturn, 1) := by decide +kernel
theorem dX12_fitsWith_0 : decode cX12_fitsWith 0 = .ok (.aload_n 0, 1) := by decide +kernel
theorem dX12_fitsWith_1 : decode cX12_fitsWith 1 = .ok (.iload_n 2, 1) := by decide +kernel
theorem dX12_fitsWith_2 : decode cX12_fitsWith 2 = .ok (.iconst 3, 1) := by decide +kernel
theorem dX12_fitsWith_3 : decode cX12_fitsWith 3 = .ok (.aload_n 0, 1) := by decide +kernel
theorem dX12_fitsWith_4 : decode cX12_fitsWith 4 = .ok (.iload_n 2, 1) := by decide +kernel
theorem dX12_fitsWith_5 : decode cX12_fitsWith 5 = .ok (.iconst 1, 1) := by decide +kernel
theorem dX12_fitsWith_6 : decode cX12_fitsWith 6 = .ok (.invokevirtual 67, 3) := by decide +kernel
theorem dX12_fitsWith_9 : decode cX12_fitsWith 9 = .ok (.iadd, 1) := by decide +kernel
theorem dX12_fitsWith_10 : decode cX12_fitsWith 10 = .ok (.iload_n 3, 1) := by decide +kernel
theorem dX12_fitsWith_11 : decode cX12_fitsWith 11 = .ok (.invokevirtual 88, 3) := by decide +kernel
theorem dX12_fitsWith_14 : decode cX12_fitsWith 14 = .ok (.iconst 1, 1) := by decide +kernel
theorem dX12_fitsWith_15 : decode cX12_fitsWith 15 = .ok (.istore 4, 2) := by decide +kernel
theorem dX12_fitsWith_17 : decode cX12_fitsWith 17 = .ok (.iconst 0, 1) := by decide +kernel
theorem dX12_fitsWith_18 : decode cX12_fitsWith 18 = .ok (.istore 5, 2) := by decide +kernel
theorem dX12_fitsWith_20 : decode cX12_fitsWith 20 = .ok (.iload 5, 2) := by decide +kernel
theorem dX12_fitsWith_22 : decode cX12_fitsWith 22 = .ok (.aload_n 0, 1) := by decide +kernel
theorem dX12_fitsWith_23 : decode cX12_fitsWith 23 = .ok (.getfield 44, 3) := by decide +kernel
theorem dX12_fitsWith_26 : decode cX12_fitsWith 26 = .ok (.iload_n 1, 1) := by decide +kernel
theorem dX12_fitsWith_27 : decode cX12_fitsWith 27 = .ok (.iaload, 1) := by decide +kernel
theorem dX12_fitsWith_28 : decode cX12_fitsWith 28 = .ok (.if_icmp .ge 54, 3) := by decide +kernel
theorem dX12_fitsWith_31 : decode cX12_fitsWith 31 = .ok (.iload 4, 2) := by decide +kernel
theorem dX12_fitsWith_33 : decode cX12_fitsWith 33 = .ok (.ifCond .eq 49, 3) := by decide +kernel
theorem dX12_fitsWith_36 : decode cX12_fitsWith 36 = .ok (.aload_n 0, 1) := by decide +kernel
theorem dX12_fitsWith_37 : decode cX12_fitsWith 37 = .ok (.getfield 47, 3) := by decide +kernel
theorem dX12_fitsWith_40 : decode cX12_fitsWith 40 = .ok (.bipush 40, 2) := by decide +kernel
theorem dX12_fitsWith_42 : decode cX12_fitsWith 42 = .ok (.iload_n 1, 1) := by decide +kernel
theorem dX12_fitsWith_43 : decode cX12_fitsWith 43 = .ok (.imul, 1) := by decide +kernel
theorem dX12_fitsWith_44 : decode cX12_fitsWith 44 = .ok (.iload 5, 2) := by decide +kernel
theorem dX12_fitsWith_46 : decode cX12_fitsWith 46 = .ok (.iadd, 1) := by decide +kernel
theorem dX12_fitsWith_47 : decode cX12_fitsWith 47 = .ok (.iaload, 1) := by decide +kernel
theorem dX12_fitsWith_48 : decode cX12_fitsWith 48 = .ok (.istore 6, 2) := by decide +kernel
theorem dX12_fitsWith_50 : decode cX12_fitsWith 50 = .ok (.aload_n 0, 1) := by decide +kernel
theorem dX12_fitsWith_51 : decode cX12_fitsWith 51 = .ok (.invokevirtual 110, 3) := by decide +kernel
theorem dX12_fitsWith_54 : decode cX12_fitsWith 54 = .ok (.istore 7, 2) := by decide +kernel
theorem dX12_fitsWith_56 : decode cX12_fitsWith 56 = .ok (.iload 6, 2) := by decide +kernel
theorem dX12_fitsWith_58 : decode cX12_fitsWith 58 = .ok (.iconst (-1), 1) := by decide +kernel
theorem dX12_fitsWith_59 : decode cX12_fitsWith 59 = .ok (.if_icmp .eq 10, 3) := by decide +kernel
theorem dX12_fitsWith_62 : decode cX12_fitsWith 62 = .ok (.iload 6, 2) := by decide +kernel
theorem dX12_fitsWith_64 : decode cX12_fitsWith 64 = .ok (.iload 7, 2) := by decide +kernel
theorem dX12_fitsWith_66 : decode cX12_fitsWith 66 = .ok (.if_icmp .ne 7, 3) := by decide +kernel
theorem dX12_fitsWith_69 : decode cX12_fitsWith 69 = .ok (.iconst 1, 1) := by decide +kernel
theorem dX12_fitsWith_70 : decode cX12_fitsWith 70 = .ok (.goto 4, 3) := by decide +kernel
theorem dX12_fitsWith_73 : decode cX12_fitsWith 73 = .ok (.iconst 0, 1) := by decide +kernel
theorem dX12_fitsWith_74 : decode cX12_fitsWith 74 = .ok (.istore 4, 2) := by decide +kernel
theorem dX12_fitsWith_76 : decode cX12_fitsWith 76 = .ok (.iinc 5 1, 3) := by decide +kernel
theorem dX12_fitsWith_79 : decode cX12_fitsWith 79 = .ok (.goto (-59), 3) := by decide +kernel
theorem dX12_fitsWith_82 : decode cX12_fitsWith 82 = .ok (.aload_n 0, 1) := by decide +kernel
theorem dX12_fitsWith_83 : decode cX12_fitsWith 83 = .ok (.getfield 16, 3) := by decide +kernel
theorem dX12_fitsWith_86 : decode cX12_fitsWith 86 = .ok (.aload_n 0, 1) := by decide +kernel
theorem dX12_fitsWith_87 : decode cX12_fitsWith 87 = .ok (.getfield 9, 3) := by decide +kernel
theorem dX12_fitsWith_90 : decode cX12_fitsWith 90 = .ok (.invokestatic 169, 3) := by decide +kernel
theorem dX12_fitsWith_93 : decode cX12_fitsWith 93 = .ok (.iload 4, 2) := by decide +kernel
theorem dX12_fitsWith_95 : decode cX12_fitsWith 95 = .ok (.ireturn, 1) := by decide +kernel
theorem dX12_fits_0 : decode cX12_fits 0 = .ok (.iload_n 1, 1) := by decide +kernel
theorem dX12_fits_1 : decode cX12_fits 1 = .ok (.invokestatic 230, 3) := by decide +kernel
theorem dX12_fits_4 : decode cX12_fits 4 = .ok (.ifCond .eq 20, 3) := by decide +kernel
theorem dX12_fits_7 : decode cX12_fits 7 = .ok (.aload_n 0, 1) := by decide +kernel
theorem dX12_fits_8 : decode cX12_fits 8 = .ok (.iload_n 2, 1) := by decide +kernel
theorem dX12_fits_9 : decode cX12_fits 9 = .ok (.invokevirtual 188, 3) := by decide +kernel
theorem dX12_fits_12 : decode cX12_fits 12 = .ok (.ifCond .eq 12, 3) := by decide +kernel
theorem dX12_fits_15 : decode cX12_fits 15 = .ok (.iload_n 3, 1) := by decide +kernel
theorem dX12_fits_16 : decode cX12_fits 16 = .ok (.iconst 0, 1) := by decide +kernel
theorem dX12_fits_17 : decode cX12_fits 17 = .ok (.iconst 1, 1) := by decide +kernel
theorem dX12_fits_18 : decode cX12_fits 18 = .ok (.invokestatic 63, 3) := by decide +kernel
theorem dX12_fits_21 : decode cX12_fits 21 = .ok (.ifCond .ne 5, 3) := by decide +kernel
theorem dX12_fits_24 : decode cX12_fits 24 = .ok (.iconst (-1), 1) := by decide +kernel
theorem dX12_fits_25 : decode cX12_fits 25 = .ok (.ireturn, 1) := by decide +kernel
theorem dX12_fits_26 : decode cX12_fits 26 = .ok (.aload_n 0, 1) := by decide +kernel
theorem dX12_fits_27 : decode cX12_fits 27 = .ok (.getfield 41, 3) := by decide +kernel
theorem dX12_fits_30 : decode cX12_fits 30 = .ok (.iload_n 1, 1) := by decide +kernel
theorem dX12_fits_31 : decode cX12_fits 31 = .ok (.iaload, 1) := by decide +kernel
theorem dX12_fits_32 : decode cX12_fits 32 = .ok (.ifCond .ge 6, 3) := by decide +kernel
theorem dX12_fits_35 : decode cX12_fits 35 = .ok (.bipush (-11), 2) := by decide +kernel
theorem dX12_fits_37 : decode cX12_fits 37 = .ok (.ireturn, 1) := by decide +kernel
theorem dX12_fits_38 : decode cX12_fits 38 = .ok (.aload_n 0, 1) := by decide +kernel
theorem dX12_fits_39 : decode cX12_fits 39 = .ok (.getfield 9, 3) := by decide +kernel
theorem dX12_fits_42 : decode cX12_fits 42 = .ok (.aload_n 0, 1) := by decide +kernel
theorem dX12_fits_43 : decode cX12_fits 43 = .ok (.getfield 16, 3) := by decide +kernel
theorem dX12_fits_46 : decode cX12_fits 46 = .ok (.invokestatic 169, 3) := by decide +kernel
theorem dX12_fits_49 : decode cX12_fits 49 = .ok (.iconst 0, 1) := by decide +kernel
theorem dX12_fits_50 : decode cX12_fits 50 = .ok (.istore 4, 2) := by decide +kernel
theorem dX12_fits_52 : decode cX12_fits 52 = .ok (.bipush (-3), 2) := by decide +kernel
theorem dX12_fits_54 : decode cX12_fits 54 = .ok (.istore 5, 2) := by decide +kernel
theorem dX12_fits_56 : decode cX12_fits 56 = .ok (.bipush 99, 2) := by decide +kernel
theorem dX12_fits_58 : decode cX12_fits 58 = .ok (.istore 6, 2) := by decide +kernel
theorem dX12_fits_60 : decode cX12_fits 60 = .ok (.iload 6, 2) := by decide +kernel
theorem dX12_fits_62 : decode cX12_fits 62 = .ok (.ifCond .lt 48, 3) := by decide +kernel
theorem dX12_fits_65 : decode cX12_fits 65 = .ok (.aload_n 0, 1) := by decide +kernel
theorem dX12_fits_66 : decode cX12_fits 66 = .ok (.iload_n 1, 1) := by decide +kernel
theorem dX12_fits_67 : decode cX12_fits 67 = .ok (.iload_n 2, 1) := by decide +kernel
theorem dX12_fits_68 : decode cX12_fits 68 = .ok (.iload 6, 2) := by decide +kernel
theorem dX12_fits_70 : decode cX12_fits 70 = .ok (.invokevirtual 233, 3) := by decide +kernel
theorem dX12_fits_73 : decode cX12_fits 73 = .ok (.istore 7, 2) := by decide +kernel
theorem dX12_fits_75 : decode cX12_fits 75 = .ok (.iload 4, 2) := by decide +kernel
theorem dX12_fits_77 : decode cX12_fits 77 = .ok (.iload 7, 2) := by decide +kernel
theorem dX12_fits_79 : decode cX12_fits 79 = .ok (.ifCond .eq 7, 3) := by decide +kernel
theorem dX12_fits_82 : decode cX12_fits 82 = .ok (.iconst 1, 1) := by decide +kernel
theorem dX12_fits_83 : decode cX12_fits 83 = .ok (.goto 4, 3) := by decide +kernel
theorem dX12_fits_86 : decode cX12_fits 86 = .ok (.iconst 0, 1) := by decide +kernel
theorem dX12_fits_87 : decode cX12_fits 87 = .ok (.iadd, 1) := by decide +kernel
theorem dX12_fits_88 : decode cX12_fits 88 = .ok (.istore 4, 2) := by decide +kernel
theorem dX12_fits_90 : decode cX12_fits 90 = .ok (.iload 7, 2) := by decide +kernel
theorem dX12_fits_92 : decode cX12_fits 92 = .ok (.ifCond .eq 8, 3) := by decide +kernel
theorem dX12_fits_95 : decode cX12_fits 95 = .ok (.iload 6, 2) := by decide +kernel
theorem dX12_fits_97 : decode cX12_fits 97 = .ok (.goto 5, 3) := by decide +kernel
theorem dX12_fits_100 : decode cX12_fits 100 = .ok (.iload 5, 2) := by decide +kernel
theorem dX12_fits_102 : decode cX12_fits 102 = .ok (.istore 5, 2) := by decide +kernel
theorem dX12_fits_104 : decode cX12_fits 104 = .ok (.iinc 6 (-1), 3) := by decide +kernel
theorem dX12_fits_107 : decode cX12_fits 107 = .ok (.goto (-47), 3) := by decide +kernel
theorem dX12_fits_110 : decode cX12_fits 110 = .ok (.iload_n 3, 1) := by decide +kernel
theorem dX12_fits_111 : decode cX12_fits 111 = .ok (.ifCond .ne 8, 3) := by decide +kernel
theorem dX12_fits_114 : decode cX12_fits 114 = .ok (.iload 4, 2) := by decide +kernel
theorem dX12_fits_116 : decode cX12_fits 116 = .ok (.goto 5, 3) := by decide +kernel
theorem dX12_fits_119 : decode cX12_fits 119 = .ok (.iload 5, 2) := by decide +kernel
theorem dX12_fits_121 : decode cX12_fits 121 = .ok (.ireturn, 1) := by decide +kernel
theorem dX12_partOf__0 : decode cX12_partOf_ 0 = .ok (.lload_n 0, 1) := by decide +kernel
theorem dX12_partOf__1 : decode cX12_partOf_ 1 = .ok (.lstore 5, 2) := by decide +kernel
theorem dX12_partOf__3 : decode cX12_partOf_ 3 = .ok (.lload_n 2, 1) := by decide +kernel
theorem dX12_partOf__4 : decode cX12_partOf_ 4 = .ok (.lstore 7, 2) := by decide +kernel
theorem dX12_partOf__6 : decode cX12_partOf_ 6 = .ok (.lload 7, 2) := by decide +kernel
theorem dX12_partOf__8 : decode cX12_partOf_ 8 = .ok (.lconst 0, 1) := by decide +kernel
theorem dX12_partOf__9 : decode cX12_partOf_ 9 = .ok (.lcmp, 1) := by decide +kernel
theorem dX12_partOf__10 : decode cX12_partOf_ 10 = .ok (.ifCond .eq 21, 3) := by decide +kernel
theorem dX12_partOf__13 : decode cX12_partOf_ 13 = .ok (.lload 5, 2) := by decide +kernel
theorem dX12_partOf__15 : decode cX12_partOf_ 15 = .ok (.lload 7, 2) := by decide +kernel
theorem dX12_partOf__17 : decode cX12_partOf_ 17 = .ok (.lrem, 1) := by decide +kernel
theorem dX12_partOf__18 : decode cX12_partOf_ 18 = .ok (.lstore 9, 2) := by decide +kernel
theorem dX12_partOf__20 : decode cX12_partOf_ 20 = .ok (.lload 7, 2) := by decide +kernel
theorem dX12_partOf__22 : decode cX12_partOf_ 22 = .ok (.lstore 5, 2) := by decide +kernel
theorem dX12_partOf__24 : decode cX12_partOf_ 24 = .ok (.lload 9, 2) := by decide +kernel
theorem dX12_partOf__26 : decode cX12_partOf_ 26 = .ok (.lstore 7, 2) := by decide +kernel
theorem dX12_partOf__28 : decode cX12_partOf_ 28 = .ok (.goto (-22), 3) := by decide +kernel
theorem dX12_partOf__31 : decode cX12_partOf_ 31 = .ok (.iload 4, 2) := by decide +kernel
theorem dX12_partOf__33 : decode cX12_partOf_ 33 = .ok (.ifCond .ne 10, 3) := by decide +kernel
theorem dX12_partOf__36 : decode cX12_partOf_ 36 = .ok (.lload_n 0, 1) := by decide +kernel
theorem dX12_partOf__37 : decode cX12_partOf_ 37 = .ok (.lload 5, 2) := by decide +kernel
theorem dX12_partOf__39 : decode cX12_partOf_ 39 = .ok (.ldiv, 1) := by decide +kernel
theorem dX12_partOf__40 : decode cX12_partOf_ 40 = .ok (.goto 7, 3) := by decide +kernel
theorem dX12_partOf__43 : decode cX12_partOf_ 43 = .ok (.lload_n 2, 1) := by decide +kernel
theorem dX12_partOf__44 : decode cX12_partOf_ 44 = .ok (.lload 5, 2) := by decide +kernel
theorem dX12_partOf__46 : decode cX12_partOf_ 46 = .ok (.ldiv, 1) := by decide +kernel
theorem dX12_partOf__47 : decode cX12_partOf_ 47 = .ok (.lreturn, 1) := by decide +kernel
theorem dX12_odds_0 : decode cX12_odds 0 = .ok (.iload_n 1, 1) := by decide +kernel
theorem dX12_odds_1 : decode cX12_odds 1 = .ok (.iconst 0, 1) := by decide +kernel
theorem dX12_odds_2 : decode cX12_odds 2 = .ok (.bipush 8, 2) := by decide +kernel
theorem dX12_odds_4 : decode cX12_odds 4 = .ok (.invokestatic 63, 3) := by decide +kernel
theorem dX12_odds_7 : decode cX12_odds 7 = .ok (.ifCond .eq 21, 3) := by decide +kernel
theorem dX12_odds_10 : decode cX12_odds 10 = .ok (.iload_n 2, 1) := by decide +kernel
theorem dX12_odds_11 : decode cX12_odds 11 = .ok (.iconst 0, 1) := by decide +kernel
theorem dX12_odds_12 : decode cX12_odds 12 = .ok (.iload_n 1, 1) := by decide +kernel
theorem dX12_odds_13 : decode cX12_odds 13 = .ok (.invokestatic 63, 3) := by decide +kernel
theorem dX12_odds_16 : decode cX12_odds 16 = .ok (.ifCond .eq 12, 3) := by decide +kernel
theorem dX12_odds_19 : decode cX12_odds 19 = .ok (.iload_n 3, 1) := by decide +kernel
theorem dX12_odds_20 : decode cX12_odds 20 = .ok (.iconst 0, 1) := by decide +kernel
theorem dX12_odds_21 : decode cX12_odds 21 = .ok (.iconst 1, 1) := by decide +kernel
theorem dX12_odds_22 : decode cX12_odds 22 = .ok (.invokestatic 63, 3) := by decide +kernel
theorem dX12_odds_25 : decode cX12_odds 25 = .ok (.ifCond .ne 7, 3) := by decide +kernel
theorem dX12_odds_28 : decode cX12_odds 28 = .ok (.ldc2_w 236, 3) := by decide +kernel
theorem dX12_odds_31 : decode cX12_odds 31 = .ok (.lreturn, 1) := by decide +kernel
theorem dX12_odds_32 : decode cX12_odds 32 = .ok (.lconst 1, 1) := by decide +kernel
theorem dX12_odds_33 : decode cX12_odds 33 = .ok (.lstore 4, 2) := by decide +kernel
theorem dX12_odds_35 : decode cX12_odds 35 = .ok (.lconst 1, 1) := by decide +kernel
theorem dX12_odds_36 : decode cX12_odds 36 = .ok (.lstore 6, 2) := by decide +kernel
theorem dX12_odds_38 : decode cX12_odds 38 = .ok (.iconst 0, 1) := by decide +kernel
theorem dX12_odds_39 : decode cX12_odds 39 = .ok (.istore 8, 2) := by decide +kernel
theorem dX12_odds_41 : decode cX12_odds 41 = .ok (.iload 8, 2) := by decide +kernel
theorem dX12_odds_43 : decode cX12_odds 43 = .ok (.iload_n 2, 1) := by decide +kernel
theorem dX12_odds_44 : decode cX12_odds 44 = .ok (.if_icmp .ge 25, 3) := by decide +kernel
theorem dX12_odds_47 : decode cX12_odds 47 = .ok (.lload 4, 2) := by decide +kernel
theorem dX12_odds_49 : decode cX12_odds 49 = .ok (.iload_n 1, 1) := by decide +kernel
theorem dX12_odds_50 : decode cX12_odds 50 = .ok (.iload 8, 2) := by decide +kernel
theorem dX12_odds_52 : decode cX12_odds 52 = .ok (.isub, 1) := by decide +kernel
theorem dX12_odds_53 : decode cX12_odds 53 = .ok (.i2l, 1) := by decide +kernel
theorem dX12_odds_54 : decode cX12_odds 54 = .ok (.lmul, 1) := by decide +kernel
theorem dX12_odds_55 : decode cX12_odds 55 = .ok (.iload 8, 2) := by decide +kernel
theorem dX12_odds_57 : decode cX12_odds 57 = .ok (.iconst 1, 1) := by decide +kernel
theorem dX12_odds_58 : decode cX12_odds 58 = .ok (.iadd, 1) := by decide +kernel
theorem dX12_odds_59 : decode cX12_odds 59 = .ok (.i2l, 1) := by decide +kernel
theorem dX12_odds_60 : decode cX12_odds 60 = .ok (.ldiv, 1) := by decide +kernel
theorem dX12_odds_61 : decode cX12_odds 61 = .ok (.lstore 4, 2) := by decide +kernel
theorem dX12_odds_63 : decode cX12_odds 63 = .ok (.iinc 8 1, 3) := by decide +kernel
theorem dX12_odds_66 : decode cX12_odds 66 = .ok (.goto (-25), 3) := by decide +kernel
theorem dX12_odds_69 : decode cX12_odds 69 = .ok (.iconst 0, 1) := by decide +kernel
theorem dX12_odds_70 : decode cX12_odds 70 = .ok (.istore 8, 2) := by decide +kernel
theorem dX12_odds_72 : decode cX12_odds 72 = .ok (.iload 8, 2) := by decide +kernel
theorem dX12_odds_74 : decode cX12_odds 74 = .ok (.iload_n 1, 1) := by decide +kernel
theorem dX12_odds_75 : decode cX12_odds 75 = .ok (.if_icmp .ge 48, 3) := by decide +kernel
theorem dX12_odds_78 : decode cX12_odds 78 = .ok (.lload 4, 2) := by decide +kernel
theorem dX12_odds_80 : decode cX12_odds 80 = .ok (.iload 8, 2) := by decide +kernel
theorem dX12_odds_82 : decode cX12_odds 82 = .ok (.iload_n 2, 1) := by decide +kernel
theorem dX12_odds_83 : decode cX12_odds 83 = .ok (.if_icmp .ge 13, 3) := by decide +kernel
theorem dX12_odds_86 : decode cX12_odds 86 = .ok (.aload_n 0, 1) := by decide +kernel
theorem dX12_odds_87 : decode cX12_odds 87 = .ok (.getfield 9, 3) := by decide +kernel
theorem dX12_odds_90 : decode cX12_odds 90 = .ok (.iconst 4, 1) := by decide +kernel
theorem dX12_odds_91 : decode cX12_odds 91 = .ok (.iaload, 1) := by decide +kernel
theorem dX12_odds_92 : decode cX12_odds 92 = .ok (.i2l, 1) := by decide +kernel
theorem dX12_odds_93 : decode cX12_odds 93 = .ok (.goto 13, 3) := by decide +kernel
theorem dX12_odds_96 : decode cX12_odds 96 = .ok (.bipush 100, 2) := by decide +kernel
theorem dX12_odds_98 : decode cX12_odds 98 = .ok (.aload_n 0, 1) := by decide +kernel
theorem dX12_odds_99 : decode cX12_odds 99 = .ok (.getfield 9, 3) := by decide +kernel
theorem dX12_odds_102 : decode cX12_odds 102 = .ok (.iconst 4, 1) := by decide +kernel
theorem dX12_odds_103 : decode cX12_odds 103 = .ok (.iaload, 1) := by decide +kernel
theorem dX12_odds_104 : decode cX12_odds 104 = .ok (.isub, 1) := by decide +kernel
theorem dX12_odds_105 : decode cX12_odds 105 = .ok (.i2l, 1) := by decide +kernel
theorem dX12_odds_106 : decode cX12_odds 106 = .ok (.lmul, 1) := by decide +kernel
theorem dX12_odds_107 : decode cX12_odds 107 = .ok (.lstore 4, 2) := by decide +kernel
theorem dX12_odds_109 : decode cX12_odds 109 = .ok (.lload 6, 2) := by decide +kernel
theorem dX12_odds_111 : decode cX12_odds 111 = .ok (.ldc2_w 238, 3) := by decide +kernel
theorem dX12_odds_114 : decode cX12_odds 114 = .ok (.lmul, 1) := by decide +kernel
theorem dX12_odds_115 : decode cX12_odds 115 = .ok (.lstore 6, 2) := by decide +kernel
theorem dX12_odds_117 : decode cX12_odds 117 = .ok (.iinc 8 1, 3) := by decide +kernel
theorem dX12_odds_120 : decode cX12_odds 120 = .ok (.goto (-48), 3) := by decide +kernel
theorem dX12_odds_123 : decode cX12_odds 123 = .ok (.lload 4, 2) := by decide +kernel
theorem dX12_odds_125 : decode cX12_odds 125 = .ok (.lload 6, 2) := by decide +kernel
theorem dX12_odds_127 : decode cX12_odds 127 = .ok (.iload_n 3, 1) := by decide +kernel
theorem dX12_odds_128 : decode cX12_odds 128 = .ok (.invokestatic 240, 3) := by decide +kernel
theorem dX12_odds_131 : decode cX12_odds 131 = .ok (.lreturn, 1) := by decide +kernel
theorem dX12_hope_0 : decode cX12_hope 0 = .ok (.iload_n 1, 1) := by decide +kernel
theorem dX12_hope_1 : decode cX12_hope 1 = .ok (.iconst 0, 1) := by decide +kernel
theorem dX12_hope_2 : decode cX12_hope 2 = .ok (.bipush 99, 2) := by decide +kernel
theorem dX12_hope_4 : decode cX12_hope 4 = .ok (.invokestatic 63, 3) := by decide +kernel
theorem dX12_hope_7 : decode cX12_hope 7 = .ok (.ifCond .eq 32, 3) := by decide +kernel
theorem dX12_hope_10 : decode cX12_hope 10 = .ok (.iload_n 2, 1) := by decide +kernel
theorem dX12_hope_11 : decode cX12_hope 11 = .ok (.iconst 0, 1) := by decide +kernel
theorem dX12_hope_12 : decode cX12_hope 12 = .ok (.iconst 1, 1) := by decide +kernel
theorem dX12_hope_13 : decode cX12_hope 13 = .ok (.invokestatic 63, 3) := by decide +kernel
theorem dX12_hope_16 : decode cX12_hope 16 = .ok (.ifCond .eq 23, 3) := by decide +kernel
theorem dX12_hope_19 : decode cX12_hope 19 = .ok (.iload_n 1, 1) := by decide +kernel
theorem dX12_hope_20 : decode cX12_hope 20 = .ok (.i2l, 1) := by decide +kernel
theorem dX12_hope_21 : decode cX12_hope 21 = .ok (.aload_n 0, 1) := by decide +kernel
theorem dX12_hope_22 : decode cX12_hope 22 = .ok (.getfield 9, 3) := by decide +kernel
theorem dX12_hope_25 : decode cX12_hope 25 = .ok (.iconst 4, 1) := by decide +kernel
theorem dX12_hope_26 : decode cX12_hope 26 = .ok (.iaload, 1) := by decide +kernel
theorem dX12_hope_27 : decode cX12_hope 27 = .ok (.i2l, 1) := by decide +kernel
theorem dX12_hope_28 : decode cX12_hope 28 = .ok (.lmul, 1) := by decide +kernel
theorem dX12_hope_29 : decode cX12_hope 29 = .ok (.ldc2_w 238, 3) := by decide +kernel
theorem dX12_hope_32 : decode cX12_hope 32 = .ok (.iload_n 2, 1) := by decide +kernel
theorem dX12_hope_33 : decode cX12_hope 33 = .ok (.invokestatic 240, 3) := by decide +kernel
theorem dX12_hope_36 : decode cX12_hope 36 = .ok (.goto 6, 3) := by decide +kernel
theorem dX12_hope_39 : decode cX12_hope 39 = .ok (.ldc2_w 236, 3) := by decide +kernel
theorem dX12_hope_42 : decode cX12_hope 42 = .ok (.lreturn, 1) := by decide +kernel
theorem dX12_rowBy_0 : decode cX12_rowBy 0 = .ok (.aload_n 0, 1) := by decide +kernel
theorem dX12_rowBy_1 : decode cX12_rowBy 1 = .ok (.invokevirtual 78, 3) := by decide +kernel
theorem dX12_rowBy_4 : decode cX12_rowBy 4 = .ok (.aload_n 0, 1) := by decide +kernel
theorem dX12_rowBy_5 : decode cX12_rowBy 5 = .ok (.getfield 38, 3) := by decide +kernel
theorem dX12_rowBy_8 : decode cX12_rowBy 8 = .ok (.iconst 0, 1) := by decide +kernel
theorem dX12_rowBy_9 : decode cX12_rowBy 9 = .ok (.aload_n 0, 1) := by decide +kernel
theorem dX12_rowBy_10 : decode cX12_rowBy 10 = .ok (.getfield 25, 3) := by decide +kernel
theorem dX12_rowBy_13 : decode cX12_rowBy 13 = .ok (.iload_n 1, 1) := by decide +kernel
theorem dX12_rowBy_14 : decode cX12_rowBy 14 = .ok (.iaload, 1) := by decide +kernel
theorem dX12_rowBy_15 : decode cX12_rowBy 15 = .ok (.iastore, 1) := by decide +kernel
theorem dX12_rowBy_16 : decode cX12_rowBy 16 = .ok (.aload_n 0, 1) := by decide +kernel
theorem dX12_rowBy_17 : decode cX12_rowBy 17 = .ok (.getfield 38, 3) := by decide +kernel
theorem dX12_rowBy_20 : decode cX12_rowBy 20 = .ok (.iconst 2, 1) := by decide +kernel
theorem dX12_rowBy_21 : decode cX12_rowBy 21 = .ok (.aload_n 0, 1) := by decide +kernel
theorem dX12_rowBy_22 : decode cX12_rowBy 22 = .ok (.invokevirtual 110, 3) := by decide +kernel
theorem dX12_rowBy_25 : decode cX12_rowBy 25 = .ok (.iastore, 1) := by decide +kernel
theorem dX12_rowBy_26 : decode cX12_rowBy 26 = .ok (.aload_n 0, 1) := by decide +kernel
theorem dX12_rowBy_27 : decode cX12_rowBy 27 = .ok (.getfield 38, 3) := by decide +kernel
theorem dX12_rowBy_30 : decode cX12_rowBy 30 = .ok (.iconst 1, 1) := by decide +kernel
theorem dX12_rowBy_31 : decode cX12_rowBy 31 = .ok (.aload_n 0, 1) := by decide +kernel
theorem dX12_rowBy_32 : decode cX12_rowBy 32 = .ok (.iload_n 1, 1) := by decide +kernel
theorem dX12_rowBy_33 : decode cX12_rowBy 33 = .ok (.iconst 3, 1) := by decide +kernel
theorem dX12_rowBy_34 : decode cX12_rowBy 34 = .ok (.aload_n 0, 1) := by decide +kernel
theorem dX12_rowBy_35 : decode cX12_rowBy 35 = .ok (.iload_n 1, 1) := by decide +kernel
theorem dX12_rowBy_36 : decode cX12_rowBy 36 = .ok (.iconst 1, 1) := by decide +kernel
theorem dX12_rowBy_37 : decode cX12_rowBy 37 = .ok (.invokevirtual 67, 3) := by decide +kernel
theorem dX12_rowBy_40 : decode cX12_rowBy 40 = .ok (.iadd, 1) := by decide +kernel
theorem dX12_rowBy_41 : decode cX12_rowBy 41 = .ok (.invokevirtual 67, 3) := by decide +kernel
theorem dX12_rowBy_44 : decode cX12_rowBy 44 = .ok (.iastore, 1) := by decide +kernel
theorem dX12_rowBy_45 : decode cX12_rowBy 45 = .ok (.return_, 1) := by decide +kernel
theorem dX12_prove_0 : decode cX12_prove 0 = .ok (.aload_n 0, 1) := by decide +kernel
theorem dX12_prove_1 : decode cX12_prove 1 = .ok (.iload_n 1, 1) := by decide +kernel
theorem dX12_prove_2 : decode cX12_prove 2 = .ok (.invokevirtual 188, 3) := by decide +kernel
theorem dX12_prove_5 : decode cX12_prove 5 = .ok (.ifCond .eq 13, 3) := by decide +kernel
theorem dX12_prove_8 : decode cX12_prove 8 = .ok (.iload_n 2, 1) := by decide +kernel
theorem dX12_prove_9 : decode cX12_prove 9 = .ok (.iconst 1, 1) := by decide +kernel
theorem dX12_prove_10 : decode cX12_prove 10 = .ok (.bipush 10, 2) := by decide +kernel
theorem dX12_prove_12 : decode cX12_prove 12 = .ok (.invokestatic 63, 3) := by decide +kernel
theorem dX12_prove_15 : decode cX12_prove 15 = .ok (.ifCond .ne 5, 3) := by decide +kernel
theorem dX12_prove_18 : decode cX12_prove 18 = .ok (.iconst (-1), 1) := by decide +kernel
theorem dX12_prove_19 : decode cX12_prove 19 = .ok (.ireturn, 1) := by decide +kernel
theorem dX12_prove_20 : decode cX12_prove 20 = .ok (.aload_n 0, 1) := by decide +kernel
theorem dX12_prove_21 : decode cX12_prove 21 = .ok (.getfield 9, 3) := by decide +kernel
theorem dX12_prove_24 : decode cX12_prove 24 = .ok (.aload_n 0, 1) := by decide +kernel
theorem dX12_prove_25 : decode cX12_prove 25 = .ok (.getfield 16, 3) := by decide +kernel
theorem dX12_prove_28 : decode cX12_prove 28 = .ok (.invokestatic 169, 3) := by decide +kernel
theorem dX12_prove_31 : decode cX12_prove 31 = .ok (.iconst 0, 1) := by decide +kernel
theorem dX12_prove_32 : decode cX12_prove 32 = .ok (.istore_n 3, 1) := by decide +kernel
theorem dX12_prove_33 : decode cX12_prove 33 = .ok (.iload_n 3, 1) := by decide +kernel
theorem dX12_prove_34 : decode cX12_prove 34 = .ok (.iload_n 2, 1) := by decide +kernel
theorem dX12_prove_35 : decode cX12_prove 35 = .ok (.if_icmp .ge 47, 3) := by decide +kernel
theorem dX12_prove_38 : decode cX12_prove 38 = .ok (.aload_n 0, 1) := by decide +kernel
theorem dX12_prove_39 : decode cX12_prove 39 = .ok (.iload_n 1, 1) := by decide +kernel
theorem dX12_prove_40 : decode cX12_prove 40 = .ok (.invokevirtual 244, 3) := by decide +kernel
theorem dX12_prove_43 : decode cX12_prove 43 = .ok (.iconst 0, 1) := by decide +kernel
theorem dX12_prove_44 : decode cX12_prove 44 = .ok (.istore 4, 2) := by decide +kernel
theorem dX12_prove_46 : decode cX12_prove 46 = .ok (.iload 4, 2) := by decide +kernel
theorem dX12_prove_48 : decode cX12_prove 48 = .ok (.iconst 3, 1) := by decide +kernel
theorem dX12_prove_49 : decode cX12_prove 49 = .ok (.if_icmp .ge 27, 3) := by decide +kernel
theorem dX12_prove_52 : decode cX12_prove 52 = .ok (.aload_n 0, 1) := by decide +kernel
theorem dX12_prove_53 : decode cX12_prove 53 = .ok (.getfield 35, 3) := by decide +kernel
theorem dX12_prove_56 : decode cX12_prove 56 = .ok (.iconst 3, 1) := by decide +kernel
theorem dX12_prove_57 : decode cX12_prove 57 = .ok (.iload_n 3, 1) := by decide +kernel
theorem dX12_prove_58 : decode cX12_prove 58 = .ok (.imul, 1) := by decide +kernel
theorem dX12_prove_59 : decode cX12_prove 59 = .ok (.iload 4, 2) := by decide +kernel
theorem dX12_prove_61 : decode cX12_prove 61 = .ok (.iadd, 1) := by decide +kernel
theorem dX12_prove_62 : decode cX12_prove 62 = .ok (.aload_n 0, 1) := by decide +kernel
theorem dX12_prove_63 : decode cX12_prove 63 = .ok (.getfield 38, 3) := by decide +kernel
theorem dX12_prove_66 : decode cX12_prove 66 = .ok (.iload 4, 2) := by decide +kernel
theorem dX12_prove_68 : decode cX12_prove 68 = .ok (.iaload, 1) := by decide +kernel
theorem dX12_prove_69 : decode cX12_prove 69 = .ok (.iastore, 1) := by decide +kernel
theorem dX12_prove_70 : decode cX12_prove 70 = .ok (.iinc 4 1, 3) := by decide +kernel
theorem dX12_prove_73 : decode cX12_prove 73 = .ok (.goto (-27), 3) := by decide +kernel
theorem dX12_prove_76 : decode cX12_prove 76 = .ok (.iinc 3 1, 3) := by decide +kernel
theorem dX12_prove_79 : decode cX12_prove 79 = .ok (.goto (-46), 3) := by decide +kernel
theorem dX12_prove_82 : decode cX12_prove 82 = .ok (.aload_n 0, 1) := by decide +kernel
theorem dX12_prove_83 : decode cX12_prove 83 = .ok (.getfield 16, 3) := by decide +kernel
theorem dX12_prove_86 : decode cX12_prove 86 = .ok (.aload_n 0, 1) := by decide +kernel
theorem dX12_prove_87 : decode cX12_prove 87 = .ok (.getfield 9, 3) := by decide +kernel
theorem dX12_prove_90 : decode cX12_prove 90 = .ok (.invokestatic 169, 3) := by decide +kernel
theorem dX12_prove_93 : decode cX12_prove 93 = .ok (.aload_n 0, 1) := by decide +kernel
theorem dX12_prove_94 : decode cX12_prove 94 = .ok (.iload_n 2, 1) := by decide +kernel
theorem dX12_prove_95 : decode cX12_prove 95 = .ok (.putfield 173, 3) := by decide +kernel
theorem dX12_prove_98 : decode cX12_prove 98 = .ok (.iload_n 2, 1) := by decide +kernel
theorem dX12_prove_99 : decode cX12_prove 99 = .ok (.ireturn, 1) := by decide +kernel
theorem dX12_isRow_0 : decode cX12_isRow 0 = .ok (.iload_n 1, 1) := by decide +kernel
theorem dX12_isRow_1 : decode cX12_isRow 1 = .ok (.iconst 0, 1) := by decide +kernel
theorem dX12_isRow_2 : decode cX12_isRow 2 = .ok (.aload_n 0, 1) := by decide +kernel
theorem dX12_isRow_3 : decode cX12_isRow 3 = .ok (.getfield 173, 3) := by decide +kernel
theorem dX12_isRow_6 : decode cX12_isRow 6 = .ok (.iconst 1, 1) := by decide +kernel
theorem dX12_isRow_7 : decode cX12_isRow 7 = .ok (.isub, 1) := by decide +kernel
theorem dX12_isRow_8 : decode cX12_isRow 8 = .ok (.invokestatic 63, 3) := by decide +kernel
theorem dX12_isRow_11 : decode cX12_isRow 11 = .ok (.ifCond .eq 16, 3) := by decide +kernel
theorem dX12_isRow_14 : decode cX12_isRow 14 = .ok (.iload_n 2, 1) := by decide +kernel
theorem dX12_isRow_15 : decode cX12_isRow 15 = .ok (.iconst 0, 1) := by decide +kernel
theorem dX12_isRow_16 : decode cX12_isRow 16 = .ok (.iconst 2, 1) := by decide +kernel
theorem dX12_isRow_17 : decode cX12_isRow 17 = .ok (.invokestatic 63, 3) := by decide +kernel
theorem dX12_isRow_20 : decode cX12_isRow 20 = .ok (.ifCond .eq 7, 3) := by decide +kernel
theorem dX12_isRow_23 : decode cX12_isRow 23 = .ok (.iconst 1, 1) := by decide +kernel
theorem dX12_isRow_24 : decode cX12_isRow 24 = .ok (.goto 4, 3) := by decide +kernel
theorem dX12_isRow_27 : decode cX12_isRow 27 = .ok (.iconst 0, 1) := by decide +kernel
theorem dX12_isRow_28 : decode cX12_isRow 28 = .ok (.ireturn, 1) := by decide +kernel
theorem dX12_row_0 : decode cX12_row 0 = .ok (.aload_n 0, 1) := by decide +kernel
theorem dX12_row_1 : decode cX12_row 1 = .ok (.iload_n 1, 1) := by decide +kernel
theorem dX12_row_2 : decode cX12_row 2 = .ok (.iload_n 2, 1) := by decide +kernel
theorem dX12_row_3 : decode cX12_row 3 = .ok (.invokevirtual 247, 3) := by decide +kernel
theorem dX12_row_6 : decode cX12_row 6 = .ok (.ifCond .eq 16, 3) := by decide +kernel
theorem dX12_row_9 : decode cX12_row 9 = .ok (.aload_n 0, 1) := by decide +kernel
theorem dX12_row_10 : decode cX12_row 10 = .ok (.getfield 35, 3) := by decide +kernel
theorem dX12_row_13 : decode cX12_row 13 = .ok (.iconst 3, 1) := by decide +kernel
theorem dX12_row_14 : decode cX12_row 14 = .ok (.iload_n 1, 1) := by decide +kernel
theorem dX12_row_15 : decode cX12_row 15 = .ok (.imul, 1) := by decide +kernel
theorem dX12_row_16 : decode cX12_row 16 = .ok (.iload_n 2, 1) := by decide +kernel
theorem dX12_row_17 : decode cX12_row 17 = .ok (.iadd, 1) := by decide +kernel
theorem dX12_row_18 : decode cX12_row 18 = .ok (.iaload, 1) := by decide +kernel
theorem dX12_row_19 : decode cX12_row 19 = .ok (.goto 5, 3) := by decide +kernel
theorem dX12_row_22 : decode cX12_row 22 = .ok (.bipush (-9), 2) := by decide +kernel
theorem dX12_row_24 : decode cX12_row 24 = .ok (.ireturn, 1) := by decide +kernel
theorem dX12_alterRow_0 : decode cX12_alterRow 0 = .ok (.aload_n 0, 1) := by decide +kernel
theorem dX12_alterRow_1 : decode cX12_alterRow 1 = .ok (.iload_n 1, 1) := by decide +kernel
theorem dX12_alterRow_2 : decode cX12_alterRow 2 = .ok (.iload_n 2, 1) := by decide +kernel
theorem dX12_alterRow_3 : decode cX12_alterRow 3 = .ok (.invokevirtual 247, 3) := by decide +kernel
theorem dX12_alterRow_6 : decode cX12_alterRow 6 = .ok (.ifCond .ne 6, 3) := by decide +kernel
theorem dX12_alterRow_9 : decode cX12_alterRow 9 = .ok (.bipush (-9), 2) := by decide +kernel
theorem dX12_alterRow_11 : decode cX12_alterRow 11 = .ok (.ireturn, 1) := by decide +kernel
theorem dX12_alterRow_12 : decode cX12_alterRow 12 = .ok (.aload_n 0, 1) := by decide +kernel
theorem dX12_alterRow_13 : decode cX12_alterRow 13 = .ok (.getfield 35, 3) := by decide +kernel
theorem dX12_alterRow_16 : decode cX12_alterRow 16 = .ok (.iconst 3, 1) := by decide +kernel
theorem dX12_alterRow_17 : decode cX12_alterRow 17 = .ok (.iload_n 1, 1) := by decide +kernel
theorem dX12_alterRow_18 : decode cX12_alterRow 18 = .ok (.imul, 1) := by decide +kernel
theorem dX12_alterRow_19 : decode cX12_alterRow 19 = .ok (.iload_n 2, 1) := by decide +kernel
theorem dX12_alterRow_20 : decode cX12_alterRow 20 = .ok (.iadd, 1) := by decide +kernel
theorem dX12_alterRow_21 : decode cX12_alterRow 21 = .ok (.iaload, 1) := by decide +kernel
theorem dX12_alterRow_22 : decode cX12_alterRow 22 = .ok (.istore 4, 2) := by decide +kernel
theorem dX12_alterRow_24 : decode cX12_alterRow 24 = .ok (.aload_n 0, 1) := by decide +kernel
theorem dX12_alterRow_25 : decode cX12_alterRow 25 = .ok (.getfield 35, 3) := by decide +kernel
theorem dX12_alterRow_28 : decode cX12_alterRow 28 = .ok (.iconst 3, 1) := by decide +kernel
theorem dX12_alterRow_29 : decode cX12_alterRow 29 = .ok (.iload_n 1, 1) := by decide +kernel
theorem dX12_alterRow_30 : decode cX12_alterRow 30 = .ok (.imul, 1) := by decide +kernel
theorem dX12_alterRow_31 : decode cX12_alterRow 31 = .ok (.iload_n 2, 1) := by decide +kernel
theorem dX12_alterRow_32 : decode cX12_alterRow 32 = .ok (.iadd, 1) := by decide +kernel
theorem dX12_alterRow_33 : decode cX12_alterRow 33 = .ok (.iload_n 3, 1) := by decide +kernel
theorem dX12_alterRow_34 : decode cX12_alterRow 34 = .ok (.iastore, 1) := by decide +kernel
theorem dX12_alterRow_35 : decode cX12_alterRow 35 = .ok (.iload 4, 2) := by decide +kernel
theorem dX12_alterRow_37 : decode cX12_alterRow 37 = .ok (.ireturn, 1) := by decide +kernel
theorem dX12_judge_0 : decode cX12_judge 0 = .ok (.aload_n 0, 1) := by decide +kernel
theorem dX12_judge_1 : decode cX12_judge 1 = .ok (.iload_n 1, 1) := by decide +kernel
theorem dX12_judge_2 : decode cX12_judge 2 = .ok (.invokevirtual 188, 3) := by decide +kernel
theorem dX12_judge_5 : decode cX12_judge 5 = .ok (.ifCond .ne 5, 3) := by decide +kernel
theorem dX12_judge_8 : decode cX12_judge 8 = .ok (.iconst (-1), 1) := by decide +kernel
theorem dX12_judge_9 : decode cX12_judge 9 = .ok (.ireturn, 1) := by decide +kernel
theorem dX12_judge_10 : decode cX12_judge 10 = .ok (.aload_n 0, 1) := by decide +kernel
theorem dX12_judge_11 : decode cX12_judge 11 = .ok (.getfield 9, 3) := by decide +kernel
theorem dX12_judge_14 : decode cX12_judge 14 = .ok (.aload_n 0, 1) := by decide +kernel
theorem dX12_judge_15 : decode cX12_judge 15 = .ok (.getfield 16, 3) := by decide +kernel
theorem dX12_judge_18 : decode cX12_judge 18 = .ok (.invokestatic 169, 3) := by decide +kernel
theorem dX12_judge_21 : decode cX12_judge 21 = .ok (.iconst 0, 1) := by decide +kernel
theorem dX12_judge_22 : decode cX12_judge 22 = .ok (.istore_n 2, 1) := by decide +kernel
theorem dX12_judge_23 : decode cX12_judge 23 = .ok (.iconst 0, 1) := by decide +kernel
theorem dX12_judge_24 : decode cX12_judge 24 = .ok (.istore_n 3, 1) := by decide +kernel
theorem dX12_judge_25 : decode cX12_judge 25 = .ok (.iload_n 3, 1) := by decide +kernel
theorem dX12_judge_26 : decode cX12_judge 26 = .ok (.aload_n 0, 1) := by decide +kernel
theorem dX12_judge_27 : decode cX12_judge 27 = .ok (.getfield 173, 3) := by decide +kernel
theorem dX12_judge_30 : decode cX12_judge 30 = .ok (.if_icmp .ge 82, 3) := by decide +kernel
theorem dX12_judge_33 : decode cX12_judge 33 = .ok (.iload_n 2, 1) := by decide +kernel
theorem dX12_judge_34 : decode cX12_judge 34 = .ok (.ifCond .ne 78, 3) := by decide +kernel
theorem dX12_judge_37 : decode cX12_judge 37 = .ok (.aload_n 0, 1) := by decide +kernel
theorem dX12_judge_38 : decode cX12_judge 38 = .ok (.iload_n 1, 1) := by decide +kernel
theorem dX12_judge_39 : decode cX12_judge 39 = .ok (.invokevirtual 244, 3) := by decide +kernel
theorem dX12_judge_42 : decode cX12_judge 42 = .ok (.iconst 1, 1) := by decide +kernel
theorem dX12_judge_43 : decode cX12_judge 43 = .ok (.istore 4, 2) := by decide +kernel
theorem dX12_judge_45 : decode cX12_judge 45 = .ok (.iconst 0, 1) := by decide +kernel
theorem dX12_judge_46 : decode cX12_judge 46 = .ok (.istore 5, 2) := by decide +kernel
theorem dX12_judge_48 : decode cX12_judge 48 = .ok (.iload 5, 2) := by decide +kernel
theorem dX12_judge_50 : decode cX12_judge 50 = .ok (.iconst 3, 1) := by decide +kernel
theorem dX12_judge_51 : decode cX12_judge 51 = .ok (.if_icmp .ge 42, 3) := by decide +kernel
theorem dX12_judge_54 : decode cX12_judge 54 = .ok (.iload 4, 2) := by decide +kernel
theorem dX12_judge_56 : decode cX12_judge 56 = .ok (.ifCond .eq 28, 3) := by decide +kernel
theorem dX12_judge_59 : decode cX12_judge 59 = .ok (.aload_n 0, 1) := by decide +kernel
theorem dX12_judge_60 : decode cX12_judge 60 = .ok (.getfield 35, 3) := by decide +kernel
theorem dX12_judge_63 : decode cX12_judge 63 = .ok (.iconst 3, 1) := by decide +kernel
theorem dX12_judge_64 : decode cX12_judge 64 = .ok (.iload_n 3, 1) := by decide +kernel
theorem dX12_judge_65 : decode cX12_judge 65 = .ok (.imul, 1) := by decide +kernel
theorem dX12_judge_66 : decode cX12_judge 66 = .ok (.iload 5, 2) := by decide +kernel
theorem dX12_judge_68 : decode cX12_judge 68 = .ok (.iadd, 1) := by decide +kernel
theorem dX12_judge_69 : decode cX12_judge 69 = .ok (.iaload, 1) := by decide +kernel
theorem dX12_judge_70 : decode cX12_judge 70 = .ok (.aload_n 0, 1) := by decide +kernel
theorem dX12_judge_71 : decode cX12_judge 71 = .ok (.getfield 38, 3) := by decide +kernel
theorem dX12_judge_74 : decode cX12_judge 74 = .ok (.iload 5, 2) := by decide +kernel
theorem dX12_judge_76 : decode cX12_judge 76 = .ok (.iaload, 1) := by decide +kernel
theorem dX12_judge_77 : decode cX12_judge 77 = .ok (.if_icmp .ne 7, 3) := by decide +kernel
theorem dX12_judge_80 : decode cX12_judge 80 = .ok (.iconst 1, 1) := by decide +kernel
theorem dX12_judge_81 : decode cX12_judge 81 = .ok (.goto 4, 3) := by decide +kernel
theorem dX12_judge_84 : decode cX12_judge 84 = .ok (.iconst 0, 1) := by decide +kernel
theorem dX12_judge_85 : decode cX12_judge 85 = .ok (.istore 4, 2) := by decide +kernel
theorem dX12_judge_87 : decode cX12_judge 87 = .ok (.iinc 5 1, 3) := by decide +kernel
theorem dX12_judge_90 : decode cX12_judge 90 = .ok (.goto (-42), 3) := by decide +kernel
theorem dX12_judge_93 : decode cX12_judge 93 = .ok (.iload 4, 2) := by decide +kernel
theorem dX12_judge_95 : decode cX12_judge 95 = .ok (.ifCond .eq 7, 3) := by decide +kernel
theorem dX12_judge_98 : decode cX12_judge 98 = .ok (.iconst 0, 1) := by decide +kernel
theorem dX12_judge_99 : decode cX12_judge 99 = .ok (.goto 6, 3) := by decide +kernel
theorem dX12_judge_102 : decode cX12_judge 102 = .ok (.iconst 1, 1) := by decide +kernel
theorem dX12_judge_103 : decode cX12_judge 103 = .ok (.iload_n 3, 1) := by decide +kernel
theorem dX12_judge_104 : decode cX12_judge 104 = .ok (.iadd, 1) := by decide +kernel
theorem dX12_judge_105 : decode cX12_judge 105 = .ok (.istore_n 2, 1) := by decide +kernel
theorem dX12_judge_106 : decode cX12_judge 106 = .ok (.iinc 3 1, 3) := by decide +kernel
theorem dX12_judge_109 : decode cX12_judge 109 = .ok (.goto (-84), 3) := by decide +kernel
theorem dX12_judge_112 : decode cX12_judge 112 = .ok (.aload_n 0, 1) := by decide +kernel
theorem dX12_judge_113 : decode cX12_judge 113 = .ok (.getfield 16, 3) := by decide +kernel
theorem dX12_judge_116 : decode cX12_judge 116 = .ok (.aload_n 0, 1) := by decide +kernel
theorem dX12_judge_117 : decode cX12_judge 117 = .ok (.getfield 9, 3) := by decide +kernel
theorem dX12_judge_120 : decode cX12_judge 120 = .ok (.invokestatic 169, 3) := by decide +kernel
theorem dX12_judge_123 : decode cX12_judge 123 = .ok (.iload_n 2, 1) := by decide +kernel
theorem dX12_judge_124 : decode cX12_judge 124 = .ok (.ireturn, 1) := by decide +kernel
theorem dX12_isSheet_0 : decode cX12_isSheet 0 = .ok (.iload_n 0, 1) := by decide +kernel
theorem dX12_isSheet_1 : decode cX12_isSheet 1 = .ok (.iconst 0, 1) := by decide +kernel
theorem dX12_isSheet_2 : decode cX12_isSheet 2 = .ok (.iconst 3, 1) := by decide +kernel
theorem dX12_isSheet_3 : decode cX12_isSheet 3 = .ok (.invokestatic 63, 3) := by decide +kernel
theorem dX12_isSheet_6 : decode cX12_isSheet 6 = .ok (.ireturn, 1) := by decide +kernel
theorem dX12_minds_0 : decode cX12_minds 0 = .ok (.iload_n 1, 1) := by decide +kernel
theorem dX12_minds_1 : decode cX12_minds 1 = .ok (.invokestatic 230, 3) := by decide +kernel
theorem dX12_minds_4 : decode cX12_minds 4 = .ok (.ifCond .eq 36, 3) := by decide +kernel
theorem dX12_minds_7 : decode cX12_minds 7 = .ok (.aload_n 0, 1) := by decide +kernel
theorem dX12_minds_8 : decode cX12_minds 8 = .ok (.iload_n 3, 1) := by decide +kernel
theorem dX12_minds_9 : decode cX12_minds 9 = .ok (.invokevirtual 188, 3) := by decide +kernel
theorem dX12_minds_12 : decode cX12_minds 12 = .ok (.ifCond .eq 28, 3) := by decide +kernel
theorem dX12_minds_15 : decode cX12_minds 15 = .ok (.iload 4, 2) := by decide +kernel
theorem dX12_minds_17 : decode cX12_minds 17 = .ok (.iconst 0, 1) := by decide +kernel
theorem dX12_minds_18 : decode cX12_minds 18 = .ok (.bipush 8, 2) := by decide +kernel
theorem dX12_minds_20 : decode cX12_minds 20 = .ok (.invokestatic 63, 3) := by decide +kernel
theorem dX12_minds_23 : decode cX12_minds 23 = .ok (.ifCond .eq 17, 3) := by decide +kernel
theorem dX12_minds_26 : decode cX12_minds 26 = .ok (.iload_n 3, 1) := by decide +kernel
theorem dX12_minds_27 : decode cX12_minds 27 = .ok (.iload 4, 2) := by decide +kernel
theorem dX12_minds_29 : decode cX12_minds 29 = .ok (.iadd, 1) := by decide +kernel
theorem dX12_minds_30 : decode cX12_minds 30 = .ok (.aload_n 0, 1) := by decide +kernel
theorem dX12_minds_31 : decode cX12_minds 31 = .ok (.getfield 9, 3) := by decide +kernel
theorem dX12_minds_34 : decode cX12_minds 34 = .ok (.bipush 6, 2) := by decide +kernel
theorem dX12_minds_36 : decode cX12_minds 36 = .ok (.iaload, 1) := by decide +kernel
theorem dX12_minds_37 : decode cX12_minds 37 = .ok (.if_icmp .le 5, 3) := by decide +kernel
theorem dX12_minds_40 : decode cX12_minds 40 = .ok (.iconst (-1), 1) := by decide +kernel
theorem dX12_minds_41 : decode cX12_minds 41 = .ok (.ireturn, 1) := by decide +kernel
theorem dX12_minds_42 : decode cX12_minds 42 = .ok (.aload_n 0, 1) := by decide +kernel
theorem dX12_minds_43 : decode cX12_minds 43 = .ok (.getfield 41, 3) := by decide +kernel
theorem dX12_minds_46 : decode cX12_minds 46 = .ok (.iload_n 1, 1) := by decide +kernel
theorem dX12_minds_47 : decode cX12_minds 47 = .ok (.iaload, 1) := by decide +kernel
theorem dX12_minds_48 : decode cX12_minds 48 = .ok (.ifCond .ge 6, 3) := by decide +kernel
theorem dX12_minds_51 : decode cX12_minds 51 = .ok (.bipush (-11), 2) := by decide +kernel
theorem dX12_minds_53 : decode cX12_minds 53 = .ok (.ireturn, 1) := by decide +kernel
theorem dX12_minds_54 : decode cX12_minds 54 = .ok (.aload_n 0, 1) := by decide +kernel
theorem dX12_minds_55 : decode cX12_minds 55 = .ok (.getfield 41, 3) := by decide +kernel
theorem dX12_minds_58 : decode cX12_minds 58 = .ok (.iload_n 1, 1) := by decide +kernel
theorem dX12_minds_59 : decode cX12_minds 59 = .ok (.iaload, 1) := by decide +kernel
theorem dX12_minds_60 : decode cX12_minds 60 = .ok (.ifCond .eq 6, 3) := by decide +kernel
theorem dX12_minds_63 : decode cX12_minds 63 = .ok (.bipush (-13), 2) := by decide +kernel
theorem dX12_minds_65 : decode cX12_minds 65 = .ok (.ireturn, 1) := by decide +kernel
theorem dX12_minds_66 : decode cX12_minds 66 = .ok (.iload_n 2, 1) := by decide +kernel
theorem dX12_minds_67 : decode cX12_minds 67 = .ok (.iconst 0, 1) := by decide +kernel
theorem dX12_minds_68 : decode cX12_minds 68 = .ok (.aload_n 0, 1) := by decide +kernel
theorem dX12_minds_69 : decode cX12_minds 69 = .ok (.getfield 44, 3) := by decide +kernel
theorem dX12_minds_72 : decode cX12_minds 72 = .ok (.iload_n 1, 1) := by decide +kernel
theorem dX12_minds_73 : decode cX12_minds 73 = .ok (.iaload, 1) := by decide +kernel
theorem dX12_minds_74 : decode cX12_minds 74 = .ok (.invokestatic 63, 3) := by decide +kernel
theorem dX12_minds_77 : decode cX12_minds 77 = .ok (.ifCond .eq 16, 3) := by decide +kernel
theorem dX12_minds_80 : decode cX12_minds 80 = .ok (.iload 4, 2) := by decide +kernel
theorem dX12_minds_82 : decode cX12_minds 82 = .ok (.aload_n 0, 1) := by decide +kernel
theorem dX12_minds_83 : decode cX12_minds 83 = .ok (.getfield 44, 3) := by decide +kernel
theorem dX12_minds_86 : decode cX12_minds 86 = .ok (.iload_n 1, 1) := by decide +kernel
theorem dX12_minds_87 : decode cX12_minds 87 = .ok (.iaload, 1) := by decide +kernel
theorem dX12_minds_88 : decode cX12_minds 88 = .ok (.iload_n 2, 1) := by decide +kernel
theorem dX12_minds_89 : decode cX12_minds 89 = .ok (.isub, 1) := by decide +kernel
theorem dX12_minds_90 : decode cX12_minds 90 = .ok (.if_icmp .le 6, 3) := by decide +kernel
theorem dX12_minds_93 : decode cX12_minds 93 = .ok (.bipush (-12), 2) := by decide +kernel
theorem dX12_minds_95 : decode cX12_minds 95 = .ok (.ireturn, 1) := by decide +kernel
theorem dX12_minds_96 : decode cX12_minds 96 = .ok (.iconst 0, 1) := by decide +kernel
theorem dX12_minds_97 : decode cX12_minds 97 = .ok (.istore 5, 2) := by decide +kernel
theorem dX12_minds_99 : decode cX12_minds 99 = .ok (.iload 5, 2) := by decide +kernel
theorem dX12_minds_101 : decode cX12_minds 101 = .ok (.iload 4, 2) := by decide +kernel
theorem dX12_minds_103 : decode cX12_minds 103 = .ok (.if_icmp .ge 47, 3) := by decide +kernel
theorem dX12_minds_106 : decode cX12_minds 106 = .ok (.aload_n 0, 1) := by decide +kernel
theorem dX12_minds_107 : decode cX12_minds 107 = .ok (.iload_n 3, 1) := by decide +kernel
theorem dX12_minds_108 : decode cX12_minds 108 = .ok (.iload 5, 2) := by decide +kernel
theorem dX12_minds_110 : decode cX12_minds 110 = .ok (.iadd, 1) := by decide +kernel
theorem dX12_minds_111 : decode cX12_minds 111 = .ok (.iconst 3, 1) := by decide +kernel
theorem dX12_minds_112 : decode cX12_minds 112 = .ok (.aload_n 0, 1) := by decide +kernel
theorem dX12_minds_113 : decode cX12_minds 113 = .ok (.iload_n 3, 1) := by decide +kernel
theorem dX12_minds_114 : decode cX12_minds 114 = .ok (.iload 5, 2) := by decide +kernel
theorem dX12_minds_116 : decode cX12_minds 116 = .ok (.iadd, 1) := by decide +kernel
theorem dX12_minds_117 : decode cX12_minds 117 = .ok (.iconst 1, 1) := by decide +kernel
theorem dX12_minds_118 : decode cX12_minds 118 = .ok (.invokevirtual 67, 3) := by decide +kernel
theorem dX12_minds_121 : decode cX12_minds 121 = .ok (.iadd, 1) := by decide +kernel
theorem dX12_minds_122 : decode cX12_minds 122 = .ok (.aload_n 0, 1) := by decide +kernel
theorem dX12_minds_123 : decode cX12_minds 123 = .ok (.getfield 47, 3) := by decide +kernel
theorem dX12_minds_126 : decode cX12_minds 126 = .ok (.bipush 40, 2) := by decide +kernel
theorem dX12_minds_128 : decode cX12_minds 128 = .ok (.iload_n 1, 1) := by decide +kernel
theorem dX12_minds_129 : decode cX12_minds 129 = .ok (.imul, 1) := by decide +kernel
theorem dX12_minds_130 : decode cX12_minds 130 = .ok (.iload_n 2, 1) := by decide +kernel
theorem dX12_minds_131 : decode cX12_minds 131 = .ok (.iadd, 1) := by decide +kernel
theorem dX12_minds_132 : decode cX12_minds 132 = .ok (.iload 5, 2) := by decide +kernel
theorem dX12_minds_134 : decode cX12_minds 134 = .ok (.iadd, 1) := by decide +kernel
theorem dX12_minds_135 : decode cX12_minds 135 = .ok (.iaload, 1) := by decide +kernel
theorem dX12_minds_136 : decode cX12_minds 136 = .ok (.bipush 99, 2) := by decide +kernel
theorem dX12_minds_138 : decode cX12_minds 138 = .ok (.invokestatic 85, 3) := by decide +kernel
theorem dX12_minds_141 : decode cX12_minds 141 = .ok (.invokevirtual 88, 3) := by decide +kernel
theorem dX12_minds_144 : decode cX12_minds 144 = .ok (.iinc 5 1, 3) := by decide +kernel
theorem dX12_minds_147 : decode cX12_minds 147 = .ok (.goto (-48), 3) := by decide +kernel
theorem dX12_minds_150 : decode cX12_minds 150 = .ok (.iload 4, 2) := by decide +kernel
theorem dX12_minds_152 : decode cX12_minds 152 = .ok (.ireturn, 1) := by decide +kernel
theorem dX12_sheet_0 : decode cX12_sheet 0 = .ok (.iload_n 1, 1) := by decide +kernel
theorem dX12_sheet_1 : decode cX12_sheet 1 = .ok (.invokestatic 230, 3) := by decide +kernel
theorem dX12_sheet_4 : decode cX12_sheet 4 = .ok (.ifCond .eq 22, 3) := by decide +kernel
theorem dX12_sheet_7 : decode cX12_sheet 7 = .ok (.iload_n 2, 1) := by decide +kernel
theorem dX12_sheet_8 : decode cX12_sheet 8 = .ok (.iconst (-1), 1) := by decide +kernel
theorem dX12_sheet_9 : decode cX12_sheet 9 = .ok (.iconst 3, 1) := by decide +kernel
theorem dX12_sheet_10 : decode cX12_sheet 10 = .ok (.invokestatic 63, 3) := by decide +kernel
theorem dX12_sheet_13 : decode cX12_sheet 13 = .ok (.ifCond .eq 13, 3) := by decide +kernel
theorem dX12_sheet_16 : decode cX12_sheet 16 = .ok (.iload_n 2, 1) := by decide +kernel
theorem dX12_sheet_17 : decode cX12_sheet 17 = .ok (.ifCond .lt 11, 3) := by decide +kernel
theorem dX12_sheet_20 : decode cX12_sheet 20 = .ok (.iload_n 3, 1) := by decide +kernel
theorem dX12_sheet_21 : decode cX12_sheet 21 = .ok (.bipush 40, 2) := by decide +kernel
theorem dX12_sheet_23 : decode cX12_sheet 23 = .ok (.if_icmp .le 5, 3) := by decide +kernel
theorem dX12_sheet_26 : decode cX12_sheet 26 = .ok (.iconst (-1), 1) := by decide +kernel
theorem dX12_sheet_27 : decode cX12_sheet 27 = .ok (.ireturn, 1) := by decide +kernel
theorem dX12_sheet_28 : decode cX12_sheet 28 = .ok (.iload_n 2, 1) := by decide +kernel
theorem dX12_sheet_29 : decode cX12_sheet 29 = .ok (.ifCond .lt 10, 3) := by decide +kernel
theorem dX12_sheet_32 : decode cX12_sheet 32 = .ok (.iload_n 3, 1) := by decide +kernel
theorem dX12_sheet_33 : decode cX12_sheet 33 = .ok (.ifCond .ge 6, 3) := by decide +kernel
theorem dX12_sheet_36 : decode cX12_sheet 36 = .ok (.bipush (-14), 2) := by decide +kernel
theorem dX12_sheet_38 : decode cX12_sheet 38 = .ok (.ireturn, 1) := by decide +kernel
theorem dX12_sheet_39 : decode cX12_sheet 39 = .ok (.aload_n 0, 1) := by decide +kernel
theorem dX12_sheet_40 : decode cX12_sheet 40 = .ok (.getfield 41, 3) := by decide +kernel
theorem dX12_sheet_43 : decode cX12_sheet 43 = .ok (.iload_n 1, 1) := by decide +kernel
theorem dX12_sheet_44 : decode cX12_sheet 44 = .ok (.iload_n 2, 1) := by decide +kernel
theorem dX12_sheet_45 : decode cX12_sheet 45 = .ok (.iastore, 1) := by decide +kernel
theorem dX12_sheet_46 : decode cX12_sheet 46 = .ok (.aload_n 0, 1) := by decide +kernel
theorem dX12_sheet_47 : decode cX12_sheet 47 = .ok (.getfield 44, 3) := by decide +kernel
theorem dX12_sheet_50 : decode cX12_sheet 50 = .ok (.iload_n 1, 1) := by decide +kernel
theorem dX12_sheet_51 : decode cX12_sheet 51 = .ok (.iload_n 2, 1) := by decide +kernel
theorem dX12_sheet_52 : decode cX12_sheet 52 = .ok (.ifCond .ge 7, 3) := by decide +kernel
theorem dX12_sheet_55 : decode cX12_sheet 55 = .ok (.iconst 0, 1) := by decide +kernel
theorem dX12_sheet_56 : decode cX12_sheet 56 = .ok (.goto 4, 3) := by decide +kernel
theorem dX12_sheet_59 : decode cX12_sheet 59 = .ok (.iload_n 3, 1) := by decide +kernel
theorem dX12_sheet_60 : decode cX12_sheet 60 = .ok (.iastore, 1) := by decide +kernel
theorem dX12_sheet_61 : decode cX12_sheet 61 = .ok (.iconst 0, 1) := by decide +kernel
theorem dX12_sheet_62 : decode cX12_sheet 62 = .ok (.istore 4, 2) := by decide +kernel
theorem dX12_sheet_64 : decode cX12_sheet 64 = .ok (.iload 4, 2) := by decide +kernel
theorem dX12_sheet_66 : decode cX12_sheet 66 = .ok (.bipush 40, 2) := by decide +kernel
theorem dX12_sheet_68 : decode cX12_sheet 68 = .ok (.if_icmp .ge 22, 3) := by decide +kernel
theorem dX12_sheet_71 : decode cX12_sheet 71 = .ok (.aload_n 0, 1) := by decide +kernel
theorem dX12_sheet_72 : decode cX12_sheet 72 = .ok (.getfield 47, 3) := by decide +kernel
theorem dX12_sheet_75 : decode cX12_sheet 75 = .ok (.bipush 40, 2) := by decide +kernel
theorem dX12_sheet_77 : decode cX12_sheet 77 = .ok (.iload_n 1, 1) := by decide +kernel
theorem dX12_sheet_78 : decode cX12_sheet 78 = .ok (.imul, 1) := by decide +kernel
theorem dX12_sheet_79 : decode cX12_sheet 79 = .ok (.iload 4, 2) := by decide +kernel
theorem dX12_sheet_81 : decode cX12_sheet 81 = .ok (.iadd, 1) := by decide +kernel
theorem dX12_sheet_82 : decode cX12_sheet 82 = .ok (.iconst 0, 1) := by decide +kernel
theorem dX12_sheet_83 : decode cX12_sheet 83 = .ok (.iastore, 1) := by decide +kernel
theorem dX12_sheet_84 : decode cX12_sheet 84 = .ok (.iinc 4 1, 3) := by decide +kernel
theorem dX12_sheet_87 : decode cX12_sheet 87 = .ok (.goto (-23), 3) := by decide +kernel
theorem dX12_sheet_90 : decode cX12_sheet 90 = .ok (.iconst 1, 1) := by decide +kernel
theorem dX12_sheet_91 : decode cX12_sheet 91 = .ok (.ireturn, 1) := by decide +kernel
theorem dX12_put_0 : decode cX12_put 0 = .ok (.iload_n 1, 1) := by decide +kernel
theorem dX12_put_1 : decode cX12_put 1 = .ok (.invokestatic 230, 3) := by decide +kernel
theorem dX12_put_4 : decode cX12_put 4 = .ok (.ifCond .ne 5, 3) := by decide +kernel
theorem dX12_put_7 : decode cX12_put 7 = .ok (.iconst (-1), 1) := by decide +kernel
theorem dX12_put_8 : decode cX12_put 8 = .ok (.ireturn, 1) := by decide +kernel
theorem dX12_put_9 : decode cX12_put 9 = .ok (.aload_n 0, 1) := by decide +kernel
theorem dX12_put_10 : decode cX12_put 10 = .ok (.getfield 41, 3) := by decide +kernel
theorem dX12_put_13 : decode cX12_put 13 = .ok (.iload_n 1, 1) := by decide +kernel
theorem dX12_put_14 : decode cX12_put 14 = .ok (.iaload, 1) := by decide +kernel
theorem dX12_put_15 : decode cX12_put 15 = .ok (.ifCond .ge 6, 3) := by decide +kernel
theorem dX12_put_18 : decode cX12_put 18 = .ok (.bipush (-11), 2) := by decide +kernel
theorem dX12_put_20 : decode cX12_put 20 = .ok (.ireturn, 1) := by decide +kernel
theorem dX12_put_21 : decode cX12_put 21 = .ok (.iload_n 2, 1) := by decide +kernel
theorem dX12_put_22 : decode cX12_put 22 = .ok (.iconst 0, 1) := by decide +kernel
theorem dX12_put_23 : decode cX12_put 23 = .ok (.aload_n 0, 1) := by decide +kernel
theorem dX12_put_24 : decode cX12_put 24 = .ok (.getfield 44, 3) := by decide +kernel
theorem dX12_put_27 : decode cX12_put 27 = .ok (.iload_n 1, 1) := by decide +kernel
theorem dX12_put_28 : decode cX12_put 28 = .ok (.iaload, 1) := by decide +kernel
theorem dX12_put_29 : decode cX12_put 29 = .ok (.iconst 1, 1) := by decide +kernel
theorem dX12_put_30 : decode cX12_put 30 = .ok (.isub, 1) := by decide +kernel
theorem dX12_put_31 : decode cX12_put 31 = .ok (.invokestatic 63, 3) := by decide +kernel
theorem dX12_put_34 : decode cX12_put 34 = .ok (.ifCond .ne 6, 3) := by decide +kernel
theorem dX12_put_37 : decode cX12_put 37 = .ok (.bipush (-12), 2) := by decide +kernel
theorem dX12_put_39 : decode cX12_put 39 = .ok (.ireturn, 1) := by decide +kernel
theorem dX12_put_40 : decode cX12_put 40 = .ok (.aload_n 0, 1) := by decide +kernel
theorem dX12_put_41 : decode cX12_put 41 = .ok (.getfield 47, 3) := by decide +kernel
theorem dX12_put_44 : decode cX12_put 44 = .ok (.bipush 40, 2) := by decide +kernel
theorem dX12_put_46 : decode cX12_put 46 = .ok (.iload_n 1, 1) := by decide +kernel
theorem dX12_put_47 : decode cX12_put 47 = .ok (.imul, 1) := by decide +kernel
theorem dX12_put_48 : decode cX12_put 48 = .ok (.iload_n 2, 1) := by decide +kernel
theorem dX12_put_49 : decode cX12_put 49 = .ok (.iadd, 1) := by decide +kernel
theorem dX12_put_50 : decode cX12_put 50 = .ok (.aload_n 0, 1) := by decide +kernel
theorem dX12_put_51 : decode cX12_put 51 = .ok (.getfield 41, 3) := by decide +kernel
theorem dX12_put_54 : decode cX12_put 54 = .ok (.iload_n 1, 1) := by decide +kernel
theorem dX12_put_55 : decode cX12_put 55 = .ok (.iaload, 1) := by decide +kernel
theorem dX12_put_56 : decode cX12_put 56 = .ok (.ifCond .ne 8, 3) := by decide +kernel
theorem dX12_put_59 : decode cX12_put 59 = .ok (.iload_n 3, 1) := by decide +kernel
theorem dX12_put_60 : decode cX12_put 60 = .ok (.i2b, 1) := by decide +kernel
theorem dX12_put_61 : decode cX12_put 61 = .ok (.goto 19, 3) := by decide +kernel
theorem dX12_put_64 : decode cX12_put 64 = .ok (.aload_n 0, 1) := by decide +kernel
theorem dX12_put_65 : decode cX12_put 65 = .ok (.getfield 41, 3) := by decide +kernel
theorem dX12_put_68 : decode cX12_put 68 = .ok (.iload_n 1, 1) := by decide +kernel
theorem dX12_put_69 : decode cX12_put 69 = .ok (.iaload, 1) := by decide +kernel
theorem dX12_put_70 : decode cX12_put 70 = .ok (.iconst 1, 1) := by decide +kernel
theorem dX12_put_71 : decode cX12_put 71 = .ok (.if_icmp .ne 8, 3) := by decide +kernel
theorem dX12_put_74 : decode cX12_put 74 = .ok (.iload_n 3, 1) := by decide +kernel
theorem dX12_put_75 : decode cX12_put 75 = .ok (.i2s, 1) := by decide +kernel
theorem dX12_put_76 : decode cX12_put 76 = .ok (.goto 4, 3) := by decide +kernel
theorem dX12_put_79 : decode cX12_put 79 = .ok (.iload_n 3, 1) := by decide +kernel
theorem dX12_put_80 : decode cX12_put 80 = .ok (.iastore, 1) := by decide +kernel
theorem dX12_put_81 : decode cX12_put 81 = .ok (.iconst 1, 1) := by decide +kernel
theorem dX12_put_82 : decode cX12_put 82 = .ok (.ireturn, 1) := by decide +kernel
theorem dX12_item_0 : decode cX12_item 0 = .ok (.iload_n 1, 1) := by decide +kernel
theorem dX12_item_1 : decode cX12_item 1 = .ok (.invokestatic 230, 3) := by decide +kernel
theorem dX12_item_4 : decode cX12_item 4 = .ok (.ifCond .eq 12, 3) := by decide +kernel
theorem dX12_item_7 : decode cX12_item 7 = .ok (.iload_n 2, 1) := by decide +kernel
theorem dX12_item_8 : decode cX12_item 8 = .ok (.iconst 0, 1) := by decide +kernel
theorem dX12_item_9 : decode cX12_item 9 = .ok (.iconst 3, 1) := by decide +kernel
theorem dX12_item_10 : decode cX12_item 10 = .ok (.invokestatic 63, 3) := by decide +kernel
theorem dX12_item_13 : decode cX12_item 13 = .ok (.ifCond .ne 5, 3) := by decide +kernel
theorem dX12_item_16 : decode cX12_item 16 = .ok (.iconst (-1), 1) := by decide +kernel
theorem dX12_item_17 : decode cX12_item 17 = .ok (.ireturn, 1) := by decide +kernel
theorem dX12_item_18 : decode cX12_item 18 = .ok (.aload_n 0, 1) := by decide +kernel
theorem dX12_item_19 : decode cX12_item 19 = .ok (.getfield 41, 3) := by decide +kernel
theorem dX12_item_22 : decode cX12_item 22 = .ok (.iload_n 1, 1) := by decide +kernel
theorem dX12_item_23 : decode cX12_item 23 = .ok (.iaload, 1) := by decide +kernel
theorem dX12_item_24 : decode cX12_item 24 = .ok (.ifCond .ge 6, 3) := by decide +kernel
theorem dX12_item_27 : decode cX12_item 27 = .ok (.bipush (-11), 2) := by decide +kernel
theorem dX12_item_29 : decode cX12_item 29 = .ok (.ireturn, 1) := by decide +kernel
theorem dX12_item_30 : decode cX12_item 30 = .ok (.aload_n 0, 1) := by decide +kernel
theorem dX12_item_31 : decode cX12_item 31 = .ok (.getfield 41, 3) := by decide +kernel
theorem dX12_item_34 : decode cX12_item 34 = .ok (.iload_n 1, 1) := by decide +kernel
theorem dX12_item_35 : decode cX12_item 35 = .ok (.iaload, 1) := by decide +kernel
theorem dX12_item_36 : decode cX12_item 36 = .ok (.iload_n 2, 1) := by decide +kernel
theorem dX12_item_37 : decode cX12_item 37 = .ok (.if_icmp .eq 6, 3) := by decide +kernel
theorem dX12_item_40 : decode cX12_item 40 = .ok (.bipush (-13), 2) := by decide +kernel
theorem dX12_item_42 : decode cX12_item 42 = .ok (.ireturn, 1) := by decide +kernel
theorem dX12_item_43 : decode cX12_item 43 = .ok (.iload_n 3, 1) := by decide +kernel
theorem dX12_item_44 : decode cX12_item 44 = .ok (.iconst 0, 1) := by decide +kernel
theorem dX12_item_45 : decode cX12_item 45 = .ok (.aload_n 0, 1) := by decide +kernel
theorem dX12_item_46 : decode cX12_item 46 = .ok (.getfield 44, 3) := by decide +kernel
theorem dX12_item_49 : decode cX12_item 49 = .ok (.iload_n 1, 1) := by decide +kernel
theorem dX12_item_50 : decode cX12_item 50 = .ok (.iaload, 1) := by decide +kernel
theorem dX12_item_51 : decode cX12_item 51 = .ok (.iconst 1, 1) := by decide +kernel
theorem dX12_item_52 : decode cX12_item 52 = .ok (.isub, 1) := by decide +kernel
theorem dX12_item_53 : decode cX12_item 53 = .ok (.invokestatic 63, 3) := by decide +kernel
theorem dX12_item_56 : decode cX12_item 56 = .ok (.ifCond .eq 17, 3) := by decide +kernel
theorem dX12_item_59 : decode cX12_item 59 = .ok (.aload_n 0, 1) := by decide +kernel
theorem dX12_item_60 : decode cX12_item 60 = .ok (.getfield 47, 3) := by decide +kernel
theorem dX12_item_63 : decode cX12_item 63 = .ok (.bipush 40, 2) := by decide +kernel
theorem dX12_item_65 : decode cX12_item 65 = .ok (.iload_n 1, 1) := by decide +kernel
theorem dX12_item_66 : decode cX12_item 66 = .ok (.imul, 1) := by decide +kernel
theorem dX12_item_67 : decode cX12_item 67 = .ok (.iload_n 3, 1) := by decide +kernel
theorem dX12_item_68 : decode cX12_item 68 = .ok (.iadd, 1) := by decide +kernel
theorem dX12_item_69 : decode cX12_item 69 = .ok (.iaload, 1) := by decide +kernel
theorem dX12_item_70 : decode cX12_item 70 = .ok (.goto 5, 3) := by decide +kernel
theorem dX12_item_73 : decode cX12_item 73 = .ok (.bipush (-12), 2) := by decide +kernel
theorem dX12_item_75 : decode cX12_item 75 = .ok (.ireturn, 1) := by decide +kernel
theorem dX12_shelf_0 : decode cX12_shelf 0 = .ok (.iload_n 1, 1) := by decide +kernel
theorem dX12_shelf_1 : decode cX12_shelf 1 = .ok (.invokestatic 230, 3) := by decide +kernel
theorem dX12_shelf_4 : decode cX12_shelf 4 = .ok (.ifCond .eq 36, 3) := by decide +kernel
theorem dX12_shelf_7 : decode cX12_shelf 7 = .ok (.iload_n 2, 1) := by decide +kernel
theorem dX12_shelf_8 : decode cX12_shelf 8 = .ok (.iconst 0, 1) := by decide +kernel
theorem dX12_shelf_9 : decode cX12_shelf 9 = .ok (.iconst 2, 1) := by decide +kernel
theorem dX12_shelf_10 : decode cX12_shelf 10 = .ok (.invokestatic 63, 3) := by decide +kernel
theorem dX12_shelf_13 : decode cX12_shelf 13 = .ok (.ifCond .eq 27, 3) := by decide +kernel
theorem dX12_shelf_16 : decode cX12_shelf 16 = .ok (.iload_n 2, 1) := by decide +kernel
theorem dX12_shelf_17 : decode cX12_shelf 17 = .ok (.ifCond .ne 11, 3) := by decide +kernel
theorem dX12_shelf_20 : decode cX12_shelf 20 = .ok (.aload_n 0, 1) := by decide +kernel
theorem dX12_shelf_21 : decode cX12_shelf 21 = .ok (.iload_n 3, 1) := by decide +kernel
theorem dX12_shelf_22 : decode cX12_shelf 22 = .ok (.invokevirtual 188, 3) := by decide +kernel
theorem dX12_shelf_25 : decode cX12_shelf 25 = .ok (.ifCond .eq 15, 3) := by decide +kernel
theorem dX12_shelf_28 : decode cX12_shelf 28 = .ok (.iload_n 2, 1) := by decide +kernel
theorem dX12_shelf_29 : decode cX12_shelf 29 = .ok (.iconst 1, 1) := by decide +kernel
theorem dX12_shelf_30 : decode cX12_shelf 30 = .ok (.if_icmp .ne 12, 3) := by decide +kernel
theorem dX12_shelf_33 : decode cX12_shelf 33 = .ok (.iload_n 3, 1) := by decide +kernel
theorem dX12_shelf_34 : decode cX12_shelf 34 = .ok (.invokestatic 230, 3) := by decide +kernel
theorem dX12_shelf_37 : decode cX12_shelf 37 = .ok (.ifCond .ne 5, 3) := by decide +kernel
theorem dX12_shelf_40 : decode cX12_shelf 40 = .ok (.iconst (-1), 1) := by decide +kernel
theorem dX12_shelf_41 : decode cX12_shelf 41 = .ok (.ireturn, 1) := by decide +kernel
theorem dX12_shelf_42 : decode cX12_shelf 42 = .ok (.aload_n 0, 1) := by decide +kernel
theorem dX12_shelf_43 : decode cX12_shelf 43 = .ok (.getfield 50, 3) := by decide +kernel
theorem dX12_shelf_46 : decode cX12_shelf 46 = .ok (.iload_n 1, 1) := by decide +kernel
theorem dX12_shelf_47 : decode cX12_shelf 47 = .ok (.iload_n 2, 1) := by decide +kernel
theorem dX12_shelf_48 : decode cX12_shelf 48 = .ok (.ifCond .ne 7, 3) := by decide +kernel
theorem dX12_shelf_51 : decode cX12_shelf 51 = .ok (.iconst 0, 1) := by decide +kernel
theorem dX12_shelf_52 : decode cX12_shelf 52 = .ok (.goto 30, 3) := by decide +kernel
theorem dX12_shelf_55 : decode cX12_shelf 55 = .ok (.iload_n 2, 1) := by decide +kernel
theorem dX12_shelf_56 : decode cX12_shelf 56 = .ok (.iconst 1, 1) := by decide +kernel
theorem dX12_shelf_57 : decode cX12_shelf 57 = .ok (.if_icmp .ne 24, 3) := by decide +kernel
theorem dX12_shelf_60 : decode cX12_shelf 60 = .ok (.aload_n 0, 1) := by decide +kernel
theorem dX12_shelf_61 : decode cX12_shelf 61 = .ok (.getfield 41, 3) := by decide +kernel
theorem dX12_shelf_64 : decode cX12_shelf 64 = .ok (.iload_n 3, 1) := by decide +kernel
theorem dX12_shelf_65 : decode cX12_shelf 65 = .ok (.iaload, 1) := by decide +kernel
theorem dX12_shelf_66 : decode cX12_shelf 66 = .ok (.ifCond .lt 15, 3) := by decide +kernel
theorem dX12_shelf_69 : decode cX12_shelf 69 = .ok (.bipush 10, 2) := by decide +kernel
theorem dX12_shelf_71 : decode cX12_shelf 71 = .ok (.aload_n 0, 1) := by decide +kernel
theorem dX12_shelf_72 : decode cX12_shelf 72 = .ok (.getfield 41, 3) := by decide +kernel
theorem dX12_shelf_75 : decode cX12_shelf 75 = .ok (.iload_n 3, 1) := by decide +kernel
theorem dX12_shelf_76 : decode cX12_shelf 76 = .ok (.iaload, 1) := by decide +kernel
theorem dX12_shelf_77 : decode cX12_shelf 77 = .ok (.iadd, 1) := by decide +kernel
theorem dX12_shelf_78 : decode cX12_shelf 78 = .ok (.goto 4, 3) := by decide +kernel
theorem dX12_shelf_81 : decode cX12_shelf 81 = .ok (.iconst (-1), 1) := by decide +kernel
theorem dX12_shelf_82 : decode cX12_shelf 82 = .ok (.iastore, 1) := by decide +kernel
theorem dX12_shelf_83 : decode cX12_shelf 83 = .ok (.aload_n 0, 1) := by decide +kernel
theorem dX12_shelf_84 : decode cX12_shelf 84 = .ok (.getfield 53, 3) := by decide +kernel
theorem dX12_shelf_87 : decode cX12_shelf 87 = .ok (.iload_n 1, 1) := by decide +kernel
theorem dX12_shelf_88 : decode cX12_shelf 88 = .ok (.iload_n 2, 1) := by decide +kernel
theorem dX12_shelf_89 : decode cX12_shelf 89 = .ok (.ifCond .ne 7, 3) := by decide +kernel
theorem dX12_shelf_92 : decode cX12_shelf 92 = .ok (.iload_n 3, 1) := by decide +kernel
theorem dX12_shelf_93 : decode cX12_shelf 93 = .ok (.goto 18, 3) := by decide +kernel
theorem dX12_shelf_96 : decode cX12_shelf 96 = .ok (.iload_n 2, 1) := by decide +kernel
theorem dX12_shelf_97 : decode cX12_shelf 97 = .ok (.iconst 1, 1) := by decide +kernel
theorem dX12_shelf_98 : decode cX12_shelf 98 = .ok (.if_icmp .ne 12, 3) := by decide +kernel
theorem dX12_shelf_101 : decode cX12_shelf 101 = .ok (.aload_n 0, 1) := by decide +kernel
theorem dX12_shelf_102 : decode cX12_shelf 102 = .ok (.getfield 44, 3) := by decide +kernel
theorem dX12_shelf_105 : decode cX12_shelf 105 = .ok (.iload_n 3, 1) := by decide +kernel
theorem dX12_shelf_106 : decode cX12_shelf 106 = .ok (.iaload, 1) := by decide +kernel
theorem dX12_shelf_107 : decode cX12_shelf 107 = .ok (.goto 4, 3) := by decide +kernel
theorem dX12_shelf_110 : decode cX12_shelf 110 = .ok (.iconst 0, 1) := by decide +kernel
theorem dX12_shelf_111 : decode cX12_shelf 111 = .ok (.iastore, 1) := by decide +kernel
theorem dX12_shelf_112 : decode cX12_shelf 112 = .ok (.iconst 1, 1) := by decide +kernel
theorem dX12_shelf_113 : decode cX12_shelf 113 = .ok (.ireturn, 1) := by decide +kernel
theorem dX12_heldOn_0 : decode cX12_heldOn 0 = .ok (.aload_n 0, 1) := by decide +kernel
theorem dX12_heldOn_1 : decode cX12_heldOn 1 = .ok (.getfield 50, 3) := by decide +kernel
theorem dX12_heldOn_4 : decode cX12_heldOn 4 = .ok (.iload_n 1, 1) := by decide +kernel
theorem dX12_heldOn_5 : decode cX12_heldOn 5 = .ok (.iaload, 1) := by decide +kernel
theorem dX12_heldOn_6 : decode cX12_heldOn 6 = .ok (.ifCond .ne 20, 3) := by decide +kernel
theorem dX12_heldOn_9 : decode cX12_heldOn 9 = .ok (.aload_n 0, 1) := by decide +kernel
theorem dX12_heldOn_10 : decode cX12_heldOn 10 = .ok (.aload_n 0, 1) := by decide +kernel
theorem dX12_heldOn_11 : decode cX12_heldOn 11 = .ok (.getfield 53, 3) := by decide +kernel
theorem dX12_heldOn_14 : decode cX12_heldOn 14 = .ok (.iload_n 1, 1) := by decide +kernel
theorem dX12_heldOn_15 : decode cX12_heldOn 15 = .ok (.iaload, 1) := by decide +kernel
theorem dX12_heldOn_16 : decode cX12_heldOn 16 = .ok (.invokevirtual 188, 3) := by decide +kernel
theorem dX12_heldOn_19 : decode cX12_heldOn 19 = .ok (.ifCond .ne 7, 3) := by decide +kernel
theorem dX12_heldOn_22 : decode cX12_heldOn 22 = .ok (.iconst (-1), 1) := by decide +kernel
theorem dX12_heldOn_23 : decode cX12_heldOn 23 = .ok (.goto 9, 3) := by decide +kernel
theorem dX12_heldOn_26 : decode cX12_heldOn 26 = .ok (.aload_n 0, 1) := by decide +kernel
theorem dX12_heldOn_27 : decode cX12_heldOn 27 = .ok (.getfield 50, 3) := by decide +kernel
theorem dX12_heldOn_30 : decode cX12_heldOn 30 = .ok (.iload_n 1, 1) := by decide +kernel
theorem dX12_heldOn_31 : decode cX12_heldOn 31 = .ok (.iaload, 1) := by decide +kernel
theorem dX12_heldOn_32 : decode cX12_heldOn 32 = .ok (.ireturn, 1) := by decide +kernel
theorem dX12_isUnder_0 : decode cX12_isUnder 0 = .ok (.iload_n 1, 1) := by decide +kernel
theorem dX12_isUnder_1 : decode cX12_isUnder 1 = .ok (.ifCond .eq 28, 3) := by decide +kernel
theorem dX12_isUnder_4 : decode cX12_isUnder 4 = .ok (.iload_n 0, 1) := by decide +kernel
theorem dX12_isUnder_5 : decode cX12_isUnder 5 = .ok (.iload_n 1, 1) := by decide +kernel
theorem dX12_isUnder_6 : decode cX12_isUnder 6 = .ok (.if_icmp .eq 23, 3) := by decide +kernel
theorem dX12_isUnder_9 : decode cX12_isUnder 9 = .ok (.iload_n 1, 1) := by decide +kernel
theorem dX12_isUnder_10 : decode cX12_isUnder 10 = .ok (.iconst 1, 1) := by decide +kernel
theorem dX12_isUnder_11 : decode cX12_isUnder 11 = .ok (.if_icmp .ne 8, 3) := by decide +kernel
theorem dX12_isUnder_14 : decode cX12_isUnder 14 = .ok (.iload_n 0, 1) := by decide +kernel
theorem dX12_isUnder_15 : decode cX12_isUnder 15 = .ok (.iconst 3, 1) := by decide +kernel
theorem dX12_isUnder_16 : decode cX12_isUnder 16 = .ok (.if_icmp .eq 13, 3) := by decide +kernel
theorem dX12_isUnder_19 : decode cX12_isUnder 19 = .ok (.iload_n 1, 1) := by decide +kernel
theorem dX12_isUnder_20 : decode cX12_isUnder 20 = .ok (.iconst 2, 1) := by decide +kernel
theorem dX12_isUnder_21 : decode cX12_isUnder 21 = .ok (.if_icmp .ne 12, 3) := by decide +kernel
theorem dX12_isUnder_24 : decode cX12_isUnder 24 = .ok (.iload_n 0, 1) := by decide +kernel
theorem dX12_isUnder_25 : decode cX12_isUnder 25 = .ok (.iconst 4, 1) := by decide +kernel
theorem dX12_isUnder_26 : decode cX12_isUnder 26 = .ok (.if_icmp .ne 7, 3) := by decide +kernel
theorem dX12_isUnder_29 : decode cX12_isUnder 29 = .ok (.iconst 1, 1) := by decide +kernel
theorem dX12_isUnder_30 : decode cX12_isUnder 30 = .ok (.goto 4, 3) := by decide +kernel
theorem dX12_isUnder_33 : decode cX12_isUnder 33 = .ok (.iconst 0, 1) := by decide +kernel
theorem dX12_isUnder_34 : decode cX12_isUnder 34 = .ok (.ireturn, 1) := by decide +kernel
theorem dX12_taken_0 : decode cX12_taken 0 = .ok (.iload_n 1, 1) := by decide +kernel
theorem dX12_taken_1 : decode cX12_taken 1 = .ok (.invokestatic 230, 3) := by decide +kernel
theorem dX12_taken_4 : decode cX12_taken 4 = .ok (.ifCond .eq 23, 3) := by decide +kernel
theorem dX12_taken_7 : decode cX12_taken 7 = .ok (.iload_n 2, 1) := by decide +kernel
theorem dX12_taken_8 : decode cX12_taken 8 = .ok (.iconst 0, 1) := by decide +kernel
theorem dX12_taken_9 : decode cX12_taken 9 = .ok (.iconst 5, 1) := by decide +kernel
theorem dX12_taken_10 : decode cX12_taken 10 = .ok (.invokestatic 63, 3) := by decide +kernel
theorem dX12_taken_13 : decode cX12_taken 13 = .ok (.ifCond .ne 16, 3) := by decide +kernel
theorem dX12_taken_16 : decode cX12_taken 16 = .ok (.iload_n 2, 1) := by decide +kernel
theorem dX12_taken_17 : decode cX12_taken 17 = .ok (.bipush 10, 2) := by decide +kernel
theorem dX12_taken_19 : decode cX12_taken 19 = .ok (.bipush 13, 2) := by decide +kernel
theorem dX12_taken_21 : decode cX12_taken 21 = .ok (.invokestatic 63, 3) := by decide +kernel
theorem dX12_taken_24 : decode cX12_taken 24 = .ok (.ifCond .ne 5, 3) := by decide +kernel
theorem dX12_taken_27 : decode cX12_taken 27 = .ok (.iconst (-1), 1) := by decide +kernel
theorem dX12_taken_28 : decode cX12_taken 28 = .ok (.ireturn, 1) := by decide +kernel
theorem dX12_taken_29 : decode cX12_taken 29 = .ok (.aload_n 0, 1) := by decide +kernel
theorem dX12_taken_30 : decode cX12_taken 30 = .ok (.iload_n 1, 1) := by decide +kernel
theorem dX12_taken_31 : decode cX12_taken 31 = .ok (.invokevirtual 250, 3) := by decide +kernel
theorem dX12_taken_34 : decode cX12_taken 34 = .ok (.istore_n 3, 1) := by decide +kernel
theorem dX12_taken_35 : decode cX12_taken 35 = .ok (.iload_n 3, 1) := by decide +kernel
theorem dX12_taken_36 : decode cX12_taken 36 = .ok (.ifCond .ge 6, 3) := by decide +kernel
theorem dX12_taken_39 : decode cX12_taken 39 = .ok (.bipush (-11), 2) := by decide +kernel
theorem dX12_taken_41 : decode cX12_taken 41 = .ok (.ireturn, 1) := by decide +kernel
theorem dX12_taken_42 : decode cX12_taken 42 = .ok (.iload_n 3, 1) := by decide +kernel
theorem dX12_taken_43 : decode cX12_taken 43 = .ok (.ifCond .ne 35, 3) := by decide +kernel
theorem dX12_taken_46 : decode cX12_taken 46 = .ok (.iload_n 2, 1) := by decide +kernel
theorem dX12_taken_47 : decode cX12_taken 47 = .ok (.bipush 10, 2) := by decide +kernel
theorem dX12_taken_49 : decode cX12_taken 49 = .ok (.if_icmp .ge 25, 3) := by decide +kernel
theorem dX12_taken_52 : decode cX12_taken 52 = .ok (.aload_n 0, 1) := by decide +kernel
theorem dX12_taken_53 : decode cX12_taken 53 = .ok (.aload_n 0, 1) := by decide +kernel
theorem dX12_taken_54 : decode cX12_taken 54 = .ok (.getfield 53, 3) := by decide +kernel
theorem dX12_taken_57 : decode cX12_taken 57 = .ok (.iload_n 1, 1) := by decide +kernel
theorem dX12_taken_58 : decode cX12_taken 58 = .ok (.iaload, 1) := by decide +kernel
theorem dX12_taken_59 : decode cX12_taken 59 = .ok (.iconst 0, 1) := by decide +kernel
theorem dX12_taken_60 : decode cX12_taken 60 = .ok (.invokevirtual 67, 3) := by decide +kernel
theorem dX12_taken_63 : decode cX12_taken 63 = .ok (.iload_n 2, 1) := by decide +kernel
theorem dX12_taken_64 : decode cX12_taken 64 = .ok (.invokestatic 253, 3) := by decide +kernel
theorem dX12_taken_67 : decode cX12_taken 67 = .ok (.ifCond .eq 7, 3) := by decide +kernel
theorem dX12_taken_70 : decode cX12_taken 70 = .ok (.iconst 1, 1) := by decide +kernel
theorem dX12_taken_71 : decode cX12_taken 71 = .ok (.goto 17, 3) := by decide +kernel
theorem dX12_taken_74 : decode cX12_taken 74 = .ok (.iconst 0, 1) := by decide +kernel
theorem dX12_taken_75 : decode cX12_taken 75 = .ok (.goto 13, 3) := by decide +kernel
theorem dX12_taken_78 : decode cX12_taken 78 = .ok (.iload_n 3, 1) := by decide +kernel
theorem dX12_taken_79 : decode cX12_taken 79 = .ok (.iload_n 2, 1) := by decide +kernel
theorem dX12_taken_80 : decode cX12_taken 80 = .ok (.if_icmp .ne 7, 3) := by decide +kernel
theorem dX12_taken_83 : decode cX12_taken 83 = .ok (.iconst 1, 1) := by decide +kernel
theorem dX12_taken_84 : decode cX12_taken 84 = .ok (.goto 4, 3) := by decide +kernel
theorem dX12_taken_87 : decode cX12_taken 87 = .ok (.iconst 0, 1) := by decide +kernel
theorem dX12_taken_88 : decode cX12_taken 88 = .ok (.istore 4, 2) := by decide +kernel
theorem dX12_taken_90 : decode cX12_taken 90 = .ok (.iload 4, 2) := by decide +kernel
theorem dX12_taken_92 : decode cX12_taken 92 = .ok (.ifCond .eq 12, 3) := by decide +kernel
theorem dX12_taken_95 : decode cX12_taken 95 = .ok (.aload_n 0, 1) := by decide +kernel
theorem dX12_taken_96 : decode cX12_taken 96 = .ok (.getfield 53, 3) := by decide +kernel
theorem dX12_taken_99 : decode cX12_taken 99 = .ok (.iload_n 1, 1) := by decide +kernel
theorem dX12_taken_100 : decode cX12_taken 100 = .ok (.iaload, 1) := by decide +kernel
theorem dX12_taken_101 : decode cX12_taken 101 = .ok (.goto 5, 3) := by decide +kernel
theorem dX12_taken_104 : decode cX12_taken 104 = .ok (.bipush (-13), 2) := by decide +kernel
theorem dX12_taken_106 : decode cX12_taken 106 = .ok (.ireturn, 1) := by decide +kernel
theorem dX12_starts_0 : decode cX12_starts 0 = .ok (.aload_n 0, 1) := by decide +kernel
theorem dX12_starts_1 : decode cX12_starts 1 = .ok (.getfield 256, 3) := by decide +kernel
theorem dX12_starts_4 : decode cX12_starts 4 = .ok (.bipush 30, 2) := by decide +kernel
theorem dX12_starts_6 : decode cX12_starts 6 = .ok (.if_icmp .ge 23, 3) := by decide +kernel
theorem dX12_starts_9 : decode cX12_starts 9 = .ok (.aload_n 0, 1) := by decide +kernel
theorem dX12_starts_10 : decode cX12_starts 10 = .ok (.getfield 56, 3) := by decide +kernel
theorem dX12_starts_13 : decode cX12_starts 13 = .ok (.aload_n 0, 1) := by decide +kernel
theorem dX12_starts_14 : decode cX12_starts 14 = .ok (.getfield 256, 3) := by decide +kernel
theorem dX12_starts_17 : decode cX12_starts 17 = .ok (.iload_n 1, 1) := by decide +kernel
theorem dX12_starts_18 : decode cX12_starts 18 = .ok (.iastore, 1) := by decide +kernel
theorem dX12_starts_19 : decode cX12_starts 19 = .ok (.aload_n 0, 1) := by decide +kernel
theorem dX12_starts_20 : decode cX12_starts 20 = .ok (.dup, 1) := by decide +kernel
theorem dX12_starts_21 : decode cX12_starts 21 = .ok (.getfield 256, 3) := by decide +kernel
theorem dX12_starts_24 : decode cX12_starts 24 = .ok (.iconst 1, 1) := by decide +kernel
theorem dX12_starts_25 : decode cX12_starts 25 = .ok (.iadd, 1) := by decide +kernel
theorem dX12_starts_26 : decode cX12_starts 26 = .ok (.putfield 256, 3) := by decide +kernel
theorem dX12_starts_29 : decode cX12_starts 29 = .ok (.return_, 1) := by decide +kernel
theorem dX12_bowsAs_0 : decode cX12_bowsAs 0 = .ok (.iload_n 1, 1) := by decide +kernel
theorem dX12_bowsAs_1 : decode cX12_bowsAs 1 = .ok (.tableswitch 71 2 4 #[27, 41, 56], 27) := by decide +kernel
theorem dX12_bowsAs_28 : decode cX12_bowsAs 28 = .ok (.aload_n 0, 1) := by decide +kernel
theorem dX12_bowsAs_29 : decode cX12_bowsAs 29 = .ok (.bipush 30, 2) := by decide +kernel
theorem dX12_bowsAs_31 : decode cX12_bowsAs 31 = .ok (.invokevirtual 259, 3) := by decide +kernel
theorem dX12_bowsAs_34 : decode cX12_bowsAs 34 = .ok (.aload_n 0, 1) := by decide +kernel
theorem dX12_bowsAs_35 : decode cX12_bowsAs 35 = .ok (.iconst 0, 1) := by decide +kernel
theorem dX12_bowsAs_36 : decode cX12_bowsAs 36 = .ok (.iload_n 2, 1) := by decide +kernel
theorem dX12_bowsAs_37 : decode cX12_bowsAs 37 = .ok (.invokevirtual 262, 3) := by decide +kernel
theorem dX12_bowsAs_40 : decode cX12_bowsAs 40 = .ok (.ineg, 1) := by decide +kernel
theorem dX12_bowsAs_41 : decode cX12_bowsAs 41 = .ok (.ireturn, 1) := by decide +kernel
theorem dX12_bowsAs_42 : decode cX12_bowsAs 42 = .ok (.aload_n 0, 1) := by decide +kernel
theorem dX12_bowsAs_43 : decode cX12_bowsAs 43 = .ok (.bipush 51, 2) := by decide +kernel
theorem dX12_bowsAs_45 : decode cX12_bowsAs 45 = .ok (.invokevirtual 259, 3) := by decide +kernel
theorem dX12_bowsAs_48 : decode cX12_bowsAs 48 = .ok (.aload_n 0, 1) := by decide +kernel
theorem dX12_bowsAs_49 : decode cX12_bowsAs 49 = .ok (.iconst 0, 1) := by decide +kernel
theorem dX12_bowsAs_50 : decode cX12_bowsAs 50 = .ok (.iload_n 2, 1) := by decide +kernel
theorem dX12_bowsAs_51 : decode cX12_bowsAs 51 = .ok (.invokevirtual 262, 3) := by decide +kernel
theorem dX12_bowsAs_54 : decode cX12_bowsAs 54 = .ok (.iconst 2, 1) := by decide +kernel
theorem dX12_bowsAs_55 : decode cX12_bowsAs 55 = .ok (.imul, 1) := by decide +kernel
theorem dX12_bowsAs_56 : decode cX12_bowsAs 56 = .ok (.ireturn, 1) := by decide +kernel
theorem dX12_bowsAs_57 : decode cX12_bowsAs 57 = .ok (.aload_n 0, 1) := by decide +kernel
theorem dX12_bowsAs_58 : decode cX12_bowsAs 58 = .ok (.bipush 40, 2) := by decide +kernel
theorem dX12_bowsAs_60 : decode cX12_bowsAs 60 = .ok (.invokevirtual 259, 3) := by decide +kernel
theorem dX12_bowsAs_63 : decode cX12_bowsAs 63 = .ok (.aload_n 0, 1) := by decide +kernel
theorem dX12_bowsAs_64 : decode cX12_bowsAs 64 = .ok (.iconst 2, 1) := by decide +kernel
theorem dX12_bowsAs_65 : decode cX12_bowsAs 65 = .ok (.iload_n 2, 1) := by decide +kernel
theorem dX12_bowsAs_66 : decode cX12_bowsAs 66 = .ok (.invokevirtual 262, 3) := by decide +kernel
theorem dX12_bowsAs_69 : decode cX12_bowsAs 69 = .ok (.iconst 5, 1) := by decide +kernel
theorem dX12_bowsAs_70 : decode cX12_bowsAs 70 = .ok (.iadd, 1) := by decide +kernel
theorem dX12_bowsAs_71 : decode cX12_bowsAs 71 = .ok (.ireturn, 1) := by decide +kernel
theorem dX12_bowsAs_72 : decode cX12_bowsAs 72 = .ok (.aload_n 0, 1) := by decide +kernel
theorem dX12_bowsAs_73 : decode cX12_bowsAs 73 = .ok (.bipush 10, 2) := by decide +kernel
theorem dX12_bowsAs_75 : decode cX12_bowsAs 75 = .ok (.invokevirtual 259, 3) := by decide +kernel
theorem dX12_bowsAs_78 : decode cX12_bowsAs 78 = .ok (.iload_n 2, 1) := by decide +kernel
theorem dX12_bowsAs_79 : decode cX12_bowsAs 79 = .ok (.bipush 6, 2) := by decide +kernel
theorem dX12_bowsAs_81 : decode cX12_bowsAs 81 = .ok (.imul, 1) := by decide +kernel
theorem dX12_bowsAs_82 : decode cX12_bowsAs 82 = .ok (.aload_n 0, 1) := by decide +kernel
theorem dX12_bowsAs_83 : decode cX12_bowsAs 83 = .ok (.getfield 265, 3) := by decide +kernel
theorem dX12_bowsAs_86 : decode cX12_bowsAs 86 = .ok (.isub, 1) := by decide +kernel
theorem dX12_bowsAs_87 : decode cX12_bowsAs 87 = .ok (.ireturn, 1) := by decide +kernel
theorem dX12_singsAs_0 : decode cX12_singsAs 0 = .ok (.iload_n 1, 1) := by decide +kernel
theorem dX12_singsAs_1 : decode cX12_singsAs 1 = .ok (.iconst 1, 1) := by decide +kernel
theorem dX12_singsAs_2 : decode cX12_singsAs 2 = .ok (.if_icmp .eq 8, 3) := by decide +kernel
theorem dX12_singsAs_5 : decode cX12_singsAs 5 = .ok (.iload_n 1, 1) := by decide +kernel
theorem dX12_singsAs_6 : decode cX12_singsAs 6 = .ok (.iconst 3, 1) := by decide +kernel
theorem dX12_singsAs_7 : decode cX12_singsAs 7 = .ok (.if_icmp .ne 18, 3) := by decide +kernel
theorem dX12_singsAs_10 : decode cX12_singsAs 10 = .ok (.aload_n 0, 1) := by decide +kernel
theorem dX12_singsAs_11 : decode cX12_singsAs 11 = .ok (.bipush 20, 2) := by decide +kernel
theorem dX12_singsAs_13 : decode cX12_singsAs 13 = .ok (.invokevirtual 259, 3) := by decide +kernel
theorem dX12_singsAs_16 : decode cX12_singsAs 16 = .ok (.aload_n 0, 1) := by decide +kernel
theorem dX12_singsAs_17 : decode cX12_singsAs 17 = .ok (.iconst 0, 1) := by decide +kernel
theorem dX12_singsAs_18 : decode cX12_singsAs 18 = .ok (.iload_n 2, 1) := by decide +kernel
theorem dX12_singsAs_19 : decode cX12_singsAs 19 = .ok (.invokevirtual 268, 3) := by decide +kernel
theorem dX12_singsAs_22 : decode cX12_singsAs 22 = .ok (.iconst 3, 1) := by decide +kernel
theorem dX12_singsAs_23 : decode cX12_singsAs 23 = .ok (.imul, 1) := by decide +kernel
theorem dX12_singsAs_24 : decode cX12_singsAs 24 = .ok (.ireturn, 1) := by decide +kernel
theorem dX12_singsAs_25 : decode cX12_singsAs 25 = .ok (.iload_n 1, 1) := by decide +kernel
theorem dX12_singsAs_26 : decode cX12_singsAs 26 = .ok (.iconst 4, 1) := by decide +kernel
theorem dX12_singsAs_27 : decode cX12_singsAs 27 = .ok (.if_icmp .ne 33, 3) := by decide +kernel
theorem dX12_singsAs_30 : decode cX12_singsAs 30 = .ok (.aload_n 0, 1) := by decide +kernel
theorem dX12_singsAs_31 : decode cX12_singsAs 31 = .ok (.bipush 41, 2) := by decide +kernel
theorem dX12_singsAs_33 : decode cX12_singsAs 33 = .ok (.invokevirtual 259, 3) := by decide +kernel
theorem dX12_singsAs_36 : decode cX12_singsAs 36 = .ok (.aload_n 0, 1) := by decide +kernel
theorem dX12_singsAs_37 : decode cX12_singsAs 37 = .ok (.iconst 2, 1) := by decide +kernel
theorem dX12_singsAs_38 : decode cX12_singsAs 38 = .ok (.iload_n 2, 1) := by decide +kernel
theorem dX12_singsAs_39 : decode cX12_singsAs 39 = .ok (.invokevirtual 268, 3) := by decide +kernel
theorem dX12_singsAs_42 : decode cX12_singsAs 42 = .ok (.istore_n 3, 1) := by decide +kernel
theorem dX12_singsAs_43 : decode cX12_singsAs 43 = .ok (.iload_n 3, 1) := by decide +kernel
theorem dX12_singsAs_44 : decode cX12_singsAs 44 = .ok (.aload_n 0, 1) := by decide +kernel
theorem dX12_singsAs_45 : decode cX12_singsAs 45 = .ok (.iconst 4, 1) := by decide +kernel
theorem dX12_singsAs_46 : decode cX12_singsAs 46 = .ok (.aload_n 0, 1) := by decide +kernel
theorem dX12_singsAs_47 : decode cX12_singsAs 47 = .ok (.aload_n 0, 1) := by decide +kernel
theorem dX12_singsAs_48 : decode cX12_singsAs 48 = .ok (.getfield 265, 3) := by decide +kernel
theorem dX12_singsAs_51 : decode cX12_singsAs 51 = .ok (.iconst 1, 1) := by decide +kernel
theorem dX12_singsAs_52 : decode cX12_singsAs 52 = .ok (.invokevirtual 67, 3) := by decide +kernel
theorem dX12_singsAs_55 : decode cX12_singsAs 55 = .ok (.invokevirtual 262, 3) := by decide +kernel
theorem dX12_singsAs_58 : decode cX12_singsAs 58 = .ok (.ixor, 1) := by decide +kernel
theorem dX12_singsAs_59 : decode cX12_singsAs 59 = .ok (.ireturn, 1) := by decide +kernel
theorem dX12_singsAs_60 : decode cX12_singsAs 60 = .ok (.aload_n 0, 1) := by decide +kernel
theorem dX12_singsAs_61 : decode cX12_singsAs 61 = .ok (.bipush 11, 2) := by decide +kernel
theorem dX12_singsAs_63 : decode cX12_singsAs 63 = .ok (.invokevirtual 259, 3) := by decide +kernel
theorem dX12_singsAs_66 : decode cX12_singsAs 66 = .ok (.aload_n 0, 1) := by decide +kernel
theorem dX12_singsAs_67 : decode cX12_singsAs 67 = .ok (.aload_n 0, 1) := by decide +kernel
theorem dX12_singsAs_68 : decode cX12_singsAs 68 = .ok (.aload_n 0, 1) := by decide +kernel
theorem dX12_singsAs_69 : decode cX12_singsAs 69 = .ok (.getfield 265, 3) := by decide +kernel
theorem dX12_singsAs_72 : decode cX12_singsAs 72 = .ok (.iconst 0, 1) := by decide +kernel
theorem dX12_singsAs_73 : decode cX12_singsAs 73 = .ok (.invokevirtual 67, 3) := by decide +kernel
theorem dX12_singsAs_76 : decode cX12_singsAs 76 = .ok (.iload_n 2, 1) := by decide +kernel
theorem dX12_singsAs_77 : decode cX12_singsAs 77 = .ok (.invokevirtual 262, 3) := by decide +kernel
theorem dX12_singsAs_80 : decode cX12_singsAs 80 = .ok (.aload_n 0, 1) := by decide +kernel
theorem dX12_singsAs_81 : decode cX12_singsAs 81 = .ok (.aload_n 0, 1) := by decide +kernel
theorem dX12_singsAs_82 : decode cX12_singsAs 82 = .ok (.getfield 265, 3) := by decide +kernel
theorem dX12_singsAs_85 : decode cX12_singsAs 85 = .ok (.iconst 1, 1) := by decide +kernel
theorem dX12_singsAs_86 : decode cX12_singsAs 86 = .ok (.invokevirtual 67, 3) := by decide +kernel
theorem dX12_singsAs_89 : decode cX12_singsAs 89 = .ok (.iconst 2, 1) := by decide +kernel
theorem dX12_singsAs_90 : decode cX12_singsAs 90 = .ok (.imul, 1) := by decide +kernel
theorem dX12_singsAs_91 : decode cX12_singsAs 91 = .ok (.iadd, 1) := by decide +kernel
theorem dX12_singsAs_92 : decode cX12_singsAs 92 = .ok (.ireturn, 1) := by decide +kernel
theorem dX12_partsAs_0 : decode cX12_partsAs 0 = .ok (.iload_n 1, 1) := by decide +kernel
theorem dX12_partsAs_1 : decode cX12_partsAs 1 = .ok (.iconst 3, 1) := by decide +kernel
theorem dX12_partsAs_2 : decode cX12_partsAs 2 = .ok (.if_icmp .ne 29, 3) := by decide +kernel
theorem dX12_partsAs_5 : decode cX12_partsAs 5 = .ok (.aload_n 0, 1) := by decide +kernel
theorem dX12_partsAs_6 : decode cX12_partsAs 6 = .ok (.bipush 50, 2) := by decide +kernel
theorem dX12_partsAs_8 : decode cX12_partsAs 8 = .ok (.invokevirtual 259, 3) := by decide +kernel
theorem dX12_partsAs_11 : decode cX12_partsAs 11 = .ok (.aload_n 0, 1) := by decide +kernel
theorem dX12_partsAs_12 : decode cX12_partsAs 12 = .ok (.iconst 1, 1) := by decide +kernel
theorem dX12_partsAs_13 : decode cX12_partsAs 13 = .ok (.iload_n 2, 1) := by decide +kernel
theorem dX12_partsAs_14 : decode cX12_partsAs 14 = .ok (.bipush 7, 2) := by decide +kernel
theorem dX12_partsAs_16 : decode cX12_partsAs 16 = .ok (.isub, 1) := by decide +kernel
theorem dX12_partsAs_17 : decode cX12_partsAs 17 = .ok (.invokevirtual 271, 3) := by decide +kernel
theorem dX12_partsAs_20 : decode cX12_partsAs 20 = .ok (.aload_n 0, 1) := by decide +kernel
theorem dX12_partsAs_21 : decode cX12_partsAs 21 = .ok (.aload_n 0, 1) := by decide +kernel
theorem dX12_partsAs_22 : decode cX12_partsAs 22 = .ok (.getfield 265, 3) := by decide +kernel
theorem dX12_partsAs_25 : decode cX12_partsAs 25 = .ok (.iconst 1, 1) := by decide +kernel
theorem dX12_partsAs_26 : decode cX12_partsAs 26 = .ok (.invokevirtual 67, 3) := by decide +kernel
theorem dX12_partsAs_29 : decode cX12_partsAs 29 = .ok (.isub, 1) := by decide +kernel
theorem dX12_partsAs_30 : decode cX12_partsAs 30 = .ok (.ireturn, 1) := by decide +kernel
theorem dX12_partsAs_31 : decode cX12_partsAs 31 = .ok (.iload_n 1, 1) := by decide +kernel
theorem dX12_partsAs_32 : decode cX12_partsAs 32 = .ok (.iconst 5, 1) := by decide +kernel
theorem dX12_partsAs_33 : decode cX12_partsAs 33 = .ok (.if_icmp .ne 39, 3) := by decide +kernel
theorem dX12_partsAs_36 : decode cX12_partsAs 36 = .ok (.aload_n 0, 1) := by decide +kernel
theorem dX12_partsAs_37 : decode cX12_partsAs 37 = .ok (.bipush 61, 2) := by decide +kernel
theorem dX12_partsAs_39 : decode cX12_partsAs 39 = .ok (.invokevirtual 259, 3) := by decide +kernel
theorem dX12_partsAs_42 : decode cX12_partsAs 42 = .ok (.aload_n 0, 1) := by decide +kernel
theorem dX12_partsAs_43 : decode cX12_partsAs 43 = .ok (.iconst 0, 1) := by decide +kernel
theorem dX12_partsAs_44 : decode cX12_partsAs 44 = .ok (.iload_n 2, 1) := by decide +kernel
theorem dX12_partsAs_45 : decode cX12_partsAs 45 = .ok (.invokevirtual 271, 3) := by decide +kernel
theorem dX12_partsAs_48 : decode cX12_partsAs 48 = .ok (.istore_n 3, 1) := by decide +kernel
theorem dX12_partsAs_49 : decode cX12_partsAs 49 = .ok (.aload_n 0, 1) := by decide +kernel
theorem dX12_partsAs_50 : decode cX12_partsAs 50 = .ok (.getfield 274, 3) := by decide +kernel
theorem dX12_partsAs_53 : decode cX12_partsAs 53 = .ok (.ifCond .eq 7, 3) := by decide +kernel
theorem dX12_partsAs_56 : decode cX12_partsAs 56 = .ok (.iconst 0, 1) := by decide +kernel
theorem dX12_partsAs_57 : decode cX12_partsAs 57 = .ok (.goto 14, 3) := by decide +kernel
theorem dX12_partsAs_60 : decode cX12_partsAs 60 = .ok (.iload_n 3, 1) := by decide +kernel
theorem dX12_partsAs_61 : decode cX12_partsAs 61 = .ok (.aload_n 0, 1) := by decide +kernel
theorem dX12_partsAs_62 : decode cX12_partsAs 62 = .ok (.iconst 5, 1) := by decide +kernel
theorem dX12_partsAs_63 : decode cX12_partsAs 63 = .ok (.aload_n 0, 1) := by decide +kernel
theorem dX12_partsAs_64 : decode cX12_partsAs 64 = .ok (.getfield 265, 3) := by decide +kernel
theorem dX12_partsAs_67 : decode cX12_partsAs 67 = .ok (.invokevirtual 262, 3) := by decide +kernel
theorem dX12_partsAs_70 : decode cX12_partsAs 70 = .ok (.imul, 1) := by decide +kernel
theorem dX12_partsAs_71 : decode cX12_partsAs 71 = .ok (.ireturn, 1) := by decide +kernel
theorem dX12_partsAs_72 : decode cX12_partsAs 72 = .ok (.aload_n 0, 1) := by decide +kernel
theorem dX12_partsAs_73 : decode cX12_partsAs 73 = .ok (.bipush 12, 2) := by decide +kernel
theorem dX12_partsAs_75 : decode cX12_partsAs 75 = .ok (.invokevirtual 259, 3) := by decide +kernel
theorem dX12_partsAs_78 : decode cX12_partsAs 78 = .ok (.aload_n 0, 1) := by decide +kernel
theorem dX12_partsAs_79 : decode cX12_partsAs 79 = .ok (.aload_n 0, 1) := by decide +kernel
theorem dX12_partsAs_80 : decode cX12_partsAs 80 = .ok (.getfield 265, 3) := by decide +kernel
theorem dX12_partsAs_83 : decode cX12_partsAs 83 = .ok (.iconst 1, 1) := by decide +kernel
theorem dX12_partsAs_84 : decode cX12_partsAs 84 = .ok (.invokevirtual 67, 3) := by decide +kernel
theorem dX12_partsAs_87 : decode cX12_partsAs 87 = .ok (.aload_n 0, 1) := by decide +kernel
theorem dX12_partsAs_88 : decode cX12_partsAs 88 = .ok (.getfield 265, 3) := by decide +kernel
theorem dX12_partsAs_91 : decode cX12_partsAs 91 = .ok (.isub, 1) := by decide +kernel
theorem dX12_partsAs_92 : decode cX12_partsAs 92 = .ok (.istore_n 3, 1) := by decide +kernel
theorem dX12_partsAs_93 : decode cX12_partsAs 93 = .ok (.aload_n 0, 1) := by decide +kernel
theorem dX12_partsAs_94 : decode cX12_partsAs 94 = .ok (.aload_n 0, 1) := by decide +kernel
theorem dX12_partsAs_95 : decode cX12_partsAs 95 = .ok (.getfield 274, 3) := by decide +kernel
theorem dX12_partsAs_98 : decode cX12_partsAs 98 = .ok (.ifCond .ne 7, 3) := by decide +kernel
theorem dX12_partsAs_101 : decode cX12_partsAs 101 = .ok (.iload_n 3, 1) := by decide +kernel
theorem dX12_partsAs_102 : decode cX12_partsAs 102 = .ok (.ifCond .ne 7, 3) := by decide +kernel
theorem dX12_partsAs_105 : decode cX12_partsAs 105 = .ok (.iconst 1, 1) := by decide +kernel
theorem dX12_partsAs_106 : decode cX12_partsAs 106 = .ok (.goto 4, 3) := by decide +kernel
theorem dX12_partsAs_109 : decode cX12_partsAs 109 = .ok (.iconst 0, 1) := by decide +kernel
theorem dX12_partsAs_110 : decode cX12_partsAs 110 = .ok (.putfield 274, 3) := by decide +kernel
theorem dX12_partsAs_113 : decode cX12_partsAs 113 = .ok (.aload_n 0, 1) := by decide +kernel
theorem dX12_partsAs_114 : decode cX12_partsAs 114 = .ok (.getfield 274, 3) := by decide +kernel
theorem dX12_partsAs_117 : decode cX12_partsAs 117 = .ok (.ifCond .eq 7, 3) := by decide +kernel
theorem dX12_partsAs_120 : decode cX12_partsAs 120 = .ok (.iconst 0, 1) := by decide +kernel
theorem dX12_partsAs_121 : decode cX12_partsAs 121 = .ok (.goto 16, 3) := by decide +kernel
theorem dX12_partsAs_124 : decode cX12_partsAs 124 = .ok (.iload_n 3, 1) := by decide +kernel
theorem dX12_partsAs_125 : decode cX12_partsAs 125 = .ok (.iconst (-1), 1) := by decide +kernel
theorem dX12_partsAs_126 : decode cX12_partsAs 126 = .ok (.if_icmp .ne 8, 3) := by decide +kernel
theorem dX12_partsAs_129 : decode cX12_partsAs 129 = .ok (.iload_n 2, 1) := by decide +kernel
theorem dX12_partsAs_130 : decode cX12_partsAs 130 = .ok (.ineg, 1) := by decide +kernel
theorem dX12_partsAs_131 : decode cX12_partsAs 131 = .ok (.goto 6, 3) := by decide +kernel
theorem dX12_partsAs_134 : decode cX12_partsAs 134 = .ok (.iload_n 2, 1) := by decide +kernel
theorem dX12_partsAs_135 : decode cX12_partsAs 135 = .ok (.iload_n 3, 1) := by decide +kernel
theorem dX12_partsAs_136 : decode cX12_partsAs 136 = .ok (.idiv, 1) := by decide +kernel
theorem dX12_partsAs_137 : decode cX12_partsAs 137 = .ok (.ireturn, 1) := by decide +kernel
theorem dX12_movesAs_0 : decode cX12_movesAs 0 = .ok (.iload_n 1, 1) := by decide +kernel
theorem dX12_movesAs_1 : decode cX12_movesAs 1 = .ok (.iconst 2, 1) := by decide +kernel
theorem dX12_movesAs_2 : decode cX12_movesAs 2 = .ok (.if_icmp .eq 8, 3) := by decide +kernel
theorem dX12_movesAs_5 : decode cX12_movesAs 5 = .ok (.iload_n 1, 1) := by decide +kernel
theorem dX12_movesAs_6 : decode cX12_movesAs 6 = .ok (.iconst 4, 1) := by decide +kernel
theorem dX12_movesAs_7 : decode cX12_movesAs 7 = .ok (.if_icmp .ne 36, 3) := by decide +kernel
theorem dX12_movesAs_10 : decode cX12_movesAs 10 = .ok (.aload_n 0, 1) := by decide +kernel
theorem dX12_movesAs_11 : decode cX12_movesAs 11 = .ok (.bipush 31, 2) := by decide +kernel
theorem dX12_movesAs_13 : decode cX12_movesAs 13 = .ok (.invokevirtual 259, 3) := by decide +kernel
theorem dX12_movesAs_16 : decode cX12_movesAs 16 = .ok (.aload_n 0, 1) := by decide +kernel
theorem dX12_movesAs_17 : decode cX12_movesAs 17 = .ok (.iconst 0, 1) := by decide +kernel
theorem dX12_movesAs_18 : decode cX12_movesAs 18 = .ok (.iload_n 2, 1) := by decide +kernel
theorem dX12_movesAs_19 : decode cX12_movesAs 19 = .ok (.invokevirtual 278, 3) := by decide +kernel
theorem dX12_movesAs_22 : decode cX12_movesAs 22 = .ok (.istore_n 3, 1) := by decide +kernel
theorem dX12_movesAs_23 : decode cX12_movesAs 23 = .ok (.iload_n 3, 1) := by decide +kernel
theorem dX12_movesAs_24 : decode cX12_movesAs 24 = .ok (.aload_n 0, 1) := by decide +kernel
theorem dX12_movesAs_25 : decode cX12_movesAs 25 = .ok (.aload_n 0, 1) := by decide +kernel
theorem dX12_movesAs_26 : decode cX12_movesAs 26 = .ok (.aload_n 0, 1) := by decide +kernel
theorem dX12_movesAs_27 : decode cX12_movesAs 27 = .ok (.getfield 265, 3) := by decide +kernel
theorem dX12_movesAs_30 : decode cX12_movesAs 30 = .ok (.iconst 0, 1) := by decide +kernel
theorem dX12_movesAs_31 : decode cX12_movesAs 31 = .ok (.invokevirtual 67, 3) := by decide +kernel
theorem dX12_movesAs_34 : decode cX12_movesAs 34 = .ok (.aload_n 0, 1) := by decide +kernel
theorem dX12_movesAs_35 : decode cX12_movesAs 35 = .ok (.getfield 265, 3) := by decide +kernel
theorem dX12_movesAs_38 : decode cX12_movesAs 38 = .ok (.invokevirtual 271, 3) := by decide +kernel
theorem dX12_movesAs_41 : decode cX12_movesAs 41 = .ok (.iadd, 1) := by decide +kernel
theorem dX12_movesAs_42 : decode cX12_movesAs 42 = .ok (.ireturn, 1) := by decide +kernel
theorem dX12_movesAs_43 : decode cX12_movesAs 43 = .ok (.iload_n 1, 1) := by decide +kernel
theorem dX12_movesAs_44 : decode cX12_movesAs 44 = .ok (.iconst 5, 1) := by decide +kernel
theorem dX12_movesAs_45 : decode cX12_movesAs 45 = .ok (.if_icmp .ne 18, 3) := by decide +kernel
theorem dX12_movesAs_48 : decode cX12_movesAs 48 = .ok (.aload_n 0, 1) := by decide +kernel
theorem dX12_movesAs_49 : decode cX12_movesAs 49 = .ok (.bipush 60, 2) := by decide +kernel
theorem dX12_movesAs_51 : decode cX12_movesAs 51 = .ok (.invokevirtual 259, 3) := by decide +kernel
theorem dX12_movesAs_54 : decode cX12_movesAs 54 = .ok (.aload_n 0, 1) := by decide +kernel
theorem dX12_movesAs_55 : decode cX12_movesAs 55 = .ok (.iconst 0, 1) := by decide +kernel
theorem dX12_movesAs_56 : decode cX12_movesAs 56 = .ok (.iload_n 2, 1) := by decide +kernel
theorem dX12_movesAs_57 : decode cX12_movesAs 57 = .ok (.invokevirtual 278, 3) := by decide +kernel
theorem dX12_movesAs_60 : decode cX12_movesAs 60 = .ok (.iconst 1, 1) := by decide +kernel
theorem dX12_movesAs_61 : decode cX12_movesAs 61 = .ok (.isub, 1) := by decide +kernel
theorem dX12_movesAs_62 : decode cX12_movesAs 62 = .ok (.ireturn, 1) := by decide +kernel
theorem dX12_movesAs_63 : decode cX12_movesAs 63 = .ok (.aload_n 0, 1) := by decide +kernel
theorem dX12_movesAs_64 : decode cX12_movesAs 64 = .ok (.bipush 13, 2) := by decide +kernel
theorem dX12_movesAs_66 : decode cX12_movesAs 66 = .ok (.invokevirtual 259, 3) := by decide +kernel
theorem dX12_movesAs_69 : decode cX12_movesAs 69 = .ok (.aload_n 0, 1) := by decide +kernel
theorem dX12_movesAs_70 : decode cX12_movesAs 70 = .ok (.aload_n 0, 1) := by decide +kernel
theorem dX12_movesAs_71 : decode cX12_movesAs 71 = .ok (.aload_n 0, 1) := by decide +kernel
theorem dX12_movesAs_72 : decode cX12_movesAs 72 = .ok (.getfield 265, 3) := by decide +kernel
theorem dX12_movesAs_75 : decode cX12_movesAs 75 = .ok (.iconst 0, 1) := by decide +kernel
theorem dX12_movesAs_76 : decode cX12_movesAs 76 = .ok (.invokevirtual 67, 3) := by decide +kernel
theorem dX12_movesAs_79 : decode cX12_movesAs 79 = .ok (.iload_n 2, 1) := by decide +kernel
theorem dX12_movesAs_80 : decode cX12_movesAs 80 = .ok (.invokevirtual 268, 3) := by decide +kernel
theorem dX12_movesAs_83 : decode cX12_movesAs 83 = .ok (.sipush 220, 3) := by decide +kernel
theorem dX12_movesAs_86 : decode cX12_movesAs 86 = .ok (.ixor, 1) := by decide +kernel
theorem dX12_movesAs_87 : decode cX12_movesAs 87 = .ok (.ireturn, 1) := by decide +kernel
theorem dX12_act_0 : decode cX12_act 0 = .ok (.aload_n 0, 1) := by decide +kernel
theorem dX12_act_1 : decode cX12_act 1 = .ok (.iconst 0, 1) := by decide +kernel
theorem dX12_act_2 : decode cX12_act 2 = .ok (.putfield 256, 3) := by decide +kernel
theorem dX12_act_5 : decode cX12_act 5 = .ok (.iload_n 1, 1) := by decide +kernel
theorem dX12_act_6 : decode cX12_act 6 = .ok (.invokestatic 230, 3) := by decide +kernel
theorem dX12_act_9 : decode cX12_act 9 = .ok (.ifCond .eq 20, 3) := by decide +kernel
theorem dX12_act_12 : decode cX12_act 12 = .ok (.iload_n 2, 1) := by decide +kernel
theorem dX12_act_13 : decode cX12_act 13 = .ok (.iconst 0, 1) := by decide +kernel
theorem dX12_act_14 : decode cX12_act 14 = .ok (.iconst 3, 1) := by decide +kernel
theorem dX12_act_15 : decode cX12_act 15 = .ok (.invokestatic 63, 3) := by decide +kernel
theorem dX12_act_18 : decode cX12_act 18 = .ok (.ifCond .eq 11, 3) := by decide +kernel
theorem dX12_act_21 : decode cX12_act 21 = .ok (.aload_n 0, 1) := by decide +kernel
theorem dX12_act_22 : decode cX12_act 22 = .ok (.iload_n 1, 1) := by decide +kernel
theorem dX12_act_23 : decode cX12_act 23 = .ok (.invokevirtual 250, 3) := by decide +kernel
theorem dX12_act_26 : decode cX12_act 26 = .ok (.ifCond .eq 5, 3) := by decide +kernel
theorem dX12_act_29 : decode cX12_act 29 = .ok (.iconst 0, 1) := by decide +kernel
theorem dX12_act_30 : decode cX12_act 30 = .ok (.ireturn, 1) := by decide +kernel
theorem dX12_act_31 : decode cX12_act 31 = .ok (.aload_n 0, 1) := by decide +kernel
theorem dX12_act_32 : decode cX12_act 32 = .ok (.aload_n 0, 1) := by decide +kernel
theorem dX12_act_33 : decode cX12_act 33 = .ok (.getfield 53, 3) := by decide +kernel
theorem dX12_act_36 : decode cX12_act 36 = .ok (.iload_n 1, 1) := by decide +kernel
theorem dX12_act_37 : decode cX12_act 37 = .ok (.iaload, 1) := by decide +kernel
theorem dX12_act_38 : decode cX12_act 38 = .ok (.putfield 265, 3) := by decide +kernel
theorem dX12_act_41 : decode cX12_act 41 = .ok (.aload_n 0, 1) := by decide +kernel
theorem dX12_act_42 : decode cX12_act 42 = .ok (.iconst 0, 1) := by decide +kernel
theorem dX12_act_43 : decode cX12_act 43 = .ok (.putfield 274, 3) := by decide +kernel
theorem dX12_act_46 : decode cX12_act 46 = .ok (.aload_n 0, 1) := by decide +kernel
theorem dX12_act_47 : decode cX12_act 47 = .ok (.aload_n 0, 1) := by decide +kernel
theorem dX12_act_48 : decode cX12_act 48 = .ok (.getfield 265, 3) := by decide +kernel
theorem dX12_act_51 : decode cX12_act 51 = .ok (.iconst 0, 1) := by decide +kernel
theorem dX12_act_52 : decode cX12_act 52 = .ok (.invokevirtual 67, 3) := by decide +kernel
theorem dX12_act_55 : decode cX12_act 55 = .ok (.istore 4, 2) := by decide +kernel
theorem dX12_act_57 : decode cX12_act 57 = .ok (.iload_n 2, 1) := by decide +kernel
theorem dX12_act_58 : decode cX12_act 58 = .ok (.ifCond .ne 13, 3) := by decide +kernel
theorem dX12_act_61 : decode cX12_act 61 = .ok (.aload_n 0, 1) := by decide +kernel
theorem dX12_act_62 : decode cX12_act 62 = .ok (.iload 4, 2) := by decide +kernel
theorem dX12_act_64 : decode cX12_act 64 = .ok (.iload_n 3, 1) := by decide +kernel
theorem dX12_act_65 : decode cX12_act 65 = .ok (.invokevirtual 262, 3) := by decide +kernel
theorem dX12_act_68 : decode cX12_act 68 = .ok (.goto 40, 3) := by decide +kernel
theorem dX12_act_71 : decode cX12_act 71 = .ok (.iload_n 2, 1) := by decide +kernel
theorem dX12_act_72 : decode cX12_act 72 = .ok (.iconst 1, 1) := by decide +kernel
theorem dX12_act_73 : decode cX12_act 73 = .ok (.if_icmp .ne 13, 3) := by decide +kernel
theorem dX12_act_76 : decode cX12_act 76 = .ok (.aload_n 0, 1) := by decide +kernel
theorem dX12_act_77 : decode cX12_act 77 = .ok (.iload 4, 2) := by decide +kernel
theorem dX12_act_79 : decode cX12_act 79 = .ok (.iload_n 3, 1) := by decide +kernel
theorem dX12_act_80 : decode cX12_act 80 = .ok (.invokevirtual 268, 3) := by decide +kernel
theorem dX12_act_83 : decode cX12_act 83 = .ok (.goto 25, 3) := by decide +kernel
theorem dX12_act_86 : decode cX12_act 86 = .ok (.iload_n 2, 1) := by decide +kernel
theorem dX12_act_87 : decode cX12_act 87 = .ok (.iconst 2, 1) := by decide +kernel
theorem dX12_act_88 : decode cX12_act 88 = .ok (.if_icmp .ne 13, 3) := by decide +kernel
theorem dX12_act_91 : decode cX12_act 91 = .ok (.aload_n 0, 1) := by decide +kernel
theorem dX12_act_92 : decode cX12_act 92 = .ok (.iload 4, 2) := by decide +kernel
theorem dX12_act_94 : decode cX12_act 94 = .ok (.iload_n 3, 1) := by decide +kernel
theorem dX12_act_95 : decode cX12_act 95 = .ok (.invokevirtual 271, 3) := by decide +kernel
theorem dX12_act_98 : decode cX12_act 98 = .ok (.goto 10, 3) := by decide +kernel
theorem dX12_act_101 : decode cX12_act 101 = .ok (.aload_n 0, 1) := by decide +kernel
theorem dX12_act_102 : decode cX12_act 102 = .ok (.iload 4, 2) := by decide +kernel
theorem dX12_act_104 : decode cX12_act 104 = .ok (.iload_n 3, 1) := by decide +kernel
theorem dX12_act_105 : decode cX12_act 105 = .ok (.invokevirtual 278, 3) := by decide +kernel
theorem dX12_act_108 : decode cX12_act 108 = .ok (.istore 5, 2) := by decide +kernel
theorem dX12_act_110 : decode cX12_act 110 = .ok (.aload_n 0, 1) := by decide +kernel
theorem dX12_act_111 : decode cX12_act 111 = .ok (.getfield 274, 3) := by decide +kernel
theorem dX12_act_114 : decode cX12_act 114 = .ok (.ifCond .eq 8, 3) := by decide +kernel
theorem dX12_act_117 : decode cX12_act 117 = .ok (.bipush (-15), 2) := by decide +kernel
theorem dX12_act_119 : decode cX12_act 119 = .ok (.goto 5, 3) := by decide +kernel
theorem dX12_act_122 : decode cX12_act 122 = .ok (.iload 5, 2) := by decide +kernel
theorem dX12_act_124 : decode cX12_act 124 = .ok (.ireturn, 1) := by decide +kernel
theorem dX12_trace_0 : decode cX12_trace 0 = .ok (.iload_n 1, 1) := by decide +kernel
theorem dX12_trace_1 : decode cX12_trace 1 = .ok (.iconst 0, 1) := by decide +kernel
theorem dX12_trace_2 : decode cX12_trace 2 = .ok (.aload_n 0, 1) := by decide +kernel
theorem dX12_trace_3 : decode cX12_trace 3 = .ok (.getfield 256, 3) := by decide +kernel
theorem dX12_trace_6 : decode cX12_trace 6 = .ok (.iconst 1, 1) := by decide +kernel
theorem dX12_trace_7 : decode cX12_trace 7 = .ok (.isub, 1) := by decide +kernel
theorem dX12_trace_8 : decode cX12_trace 8 = .ok (.invokestatic 63, 3) := by decide +kernel
theorem dX12_trace_11 : decode cX12_trace 11 = .ok (.ifCond .eq 12, 3) := by decide +kernel
theorem dX12_trace_14 : decode cX12_trace 14 = .ok (.aload_n 0, 1) := by decide +kernel
theorem dX12_trace_15 : decode cX12_trace 15 = .ok (.getfield 56, 3) := by decide +kernel
theorem dX12_trace_18 : decode cX12_trace 18 = .ok (.iload_n 1, 1) := by decide +kernel
theorem dX12_trace_19 : decode cX12_trace 19 = .ok (.iaload, 1) := by decide +kernel
theorem dX12_trace_20 : decode cX12_trace 20 = .ok (.goto 5, 3) := by decide +kernel
theorem dX12_trace_23 : decode cX12_trace 23 = .ok (.bipush (-3), 2) := by decide +kernel
theorem dX12_trace_25 : decode cX12_trace 25 = .ok (.ireturn, 1) := by decide +kernel
theorem dX12_many_0 : decode cX12_many 0 = .ok (.iconst 0, 1) := by decide +kernel
theorem dX12_many_1 : decode cX12_many 1 = .ok (.istore_n 2, 1) := by decide +kernel
theorem dX12_many_2 : decode cX12_many 2 = .ok (.iload_n 1, 1) := by decide +kernel
theorem dX12_many_3 : decode cX12_many 3 = .ok (.tableswitch 112 0 6 #[41, 49, 57, 65, 97, 102, 107], 41) := by decide +kernel
theorem dX12_many_44 : decode cX12_many 44 = .ok (.aload_n 0, 1) := by decide +kernel
theorem dX12_many_45 : decode cX12_many 45 = .ok (.getfield 9, 3) := by decide +kernel
theorem dX12_many_48 : decode cX12_many 48 = .ok (.bipush 6, 2) := by decide +kernel
theorem dX12_many_50 : decode cX12_many 50 = .ok (.iaload, 1) := by decide +kernel
theorem dX12_many_51 : decode cX12_many 51 = .ok (.ireturn, 1) := by decide +kernel
theorem dX12_many_52 : decode cX12_many 52 = .ok (.aload_n 0, 1) := by decide +kernel
theorem dX12_many_53 : decode cX12_many 53 = .ok (.invokevirtual 206, 3) := by decide +kernel
theorem dX12_many_56 : decode cX12_many 56 = .ok (.invokestatic 224, 3) := by decide +kernel
theorem dX12_many_59 : decode cX12_many 59 = .ok (.ireturn, 1) := by decide +kernel
theorem dX12_many_60 : decode cX12_many 60 = .ok (.aload_n 0, 1) := by decide +kernel
theorem dX12_many_61 : decode cX12_many 61 = .ok (.invokevirtual 203, 3) := by decide +kernel
theorem dX12_many_64 : decode cX12_many 64 = .ok (.invokestatic 224, 3) := by decide +kernel
theorem dX12_many_67 : decode cX12_many 67 = .ok (.ireturn, 1) := by decide +kernel
theorem dX12_many_68 : decode cX12_many 68 = .ok (.iconst 0, 1) := by decide +kernel
theorem dX12_many_69 : decode cX12_many 69 = .ok (.istore_n 3, 1) := by decide +kernel
theorem dX12_many_70 : decode cX12_many 70 = .ok (.iload_n 3, 1) := by decide +kernel
theorem dX12_many_71 : decode cX12_many 71 = .ok (.bipush 8, 2) := by decide +kernel
theorem dX12_many_73 : decode cX12_many 73 = .ok (.if_icmp .ge 25, 3) := by decide +kernel
theorem dX12_many_76 : decode cX12_many 76 = .ok (.iload_n 2, 1) := by decide +kernel
theorem dX12_many_77 : decode cX12_many 77 = .ok (.aload_n 0, 1) := by decide +kernel
theorem dX12_many_78 : decode cX12_many 78 = .ok (.iload_n 3, 1) := by decide +kernel
theorem dX12_many_79 : decode cX12_many 79 = .ok (.invokevirtual 185, 3) := by decide +kernel
theorem dX12_many_82 : decode cX12_many 82 = .ok (.ifCond .eq 7, 3) := by decide +kernel
theorem dX12_many_85 : decode cX12_many 85 = .ok (.iconst 1, 1) := by decide +kernel
theorem dX12_many_86 : decode cX12_many 86 = .ok (.goto 4, 3) := by decide +kernel
theorem dX12_many_89 : decode cX12_many 89 = .ok (.iconst 0, 1) := by decide +kernel
theorem dX12_many_90 : decode cX12_many 90 = .ok (.iadd, 1) := by decide +kernel
theorem dX12_many_91 : decode cX12_many 91 = .ok (.istore_n 2, 1) := by decide +kernel
theorem dX12_many_92 : decode cX12_many 92 = .ok (.iinc 3 1, 3) := by decide +kernel
theorem dX12_many_95 : decode cX12_many 95 = .ok (.goto (-25), 3) := by decide +kernel
theorem dX12_many_98 : decode cX12_many 98 = .ok (.iload_n 2, 1) := by decide +kernel
theorem dX12_many_99 : decode cX12_many 99 = .ok (.ireturn, 1) := by decide +kernel
theorem dX12_many_100 : decode cX12_many 100 = .ok (.aload_n 0, 1) := by decide +kernel
theorem dX12_many_101 : decode cX12_many 101 = .ok (.getfield 173, 3) := by decide +kernel
theorem dX12_many_104 : decode cX12_many 104 = .ok (.ireturn, 1) := by decide +kernel
theorem dX12_many_105 : decode cX12_many 105 = .ok (.aload_n 0, 1) := by decide +kernel
theorem dX12_many_106 : decode cX12_many 106 = .ok (.getfield 117, 3) := by decide +kernel
theorem dX12_many_109 : decode cX12_many 109 = .ok (.ireturn, 1) := by decide +kernel
theorem dX12_many_110 : decode cX12_many 110 = .ok (.aload_n 0, 1) := by decide +kernel
theorem dX12_many_111 : decode cX12_many 111 = .ok (.getfield 256, 3) := by decide +kernel
theorem dX12_many_114 : decode cX12_many 114 = .ok (.ireturn, 1) := by decide +kernel
theorem dX12_many_115 : decode cX12_many 115 = .ok (.iconst (-1), 1) := by decide +kernel
theorem dX12_many_116 : decode cX12_many 116 = .ok (.ireturn, 1) := by decide +kernel
theorem dX12_keep_0 : decode cX12_keep 0 = .ok (.aload_n 0, 1) := by decide +kernel
theorem dX12_keep_1 : decode cX12_keep 1 = .ok (.getfield 9, 3) := by decide +kernel
theorem dX12_keep_4 : decode cX12_keep 4 = .ok (.aload_n 0, 1) := by decide +kernel
theorem dX12_keep_5 : decode cX12_keep 5 = .ok (.getfield 13, 3) := by decide +kernel
theorem dX12_keep_8 : decode cX12_keep 8 = .ok (.invokestatic 169, 3) := by decide +kernel
theorem dX12_keep_11 : decode cX12_keep 11 = .ok (.aload_n 0, 1) := by decide +kernel
theorem dX12_keep_12 : decode cX12_keep 12 = .ok (.iconst 1, 1) := by decide +kernel
theorem dX12_keep_13 : decode cX12_keep 13 = .ok (.putfield 281, 3) := by decide +kernel
theorem dX12_keep_16 : decode cX12_keep 16 = .ok (.iconst 1, 1) := by decide +kernel
theorem dX12_keep_17 : decode cX12_keep 17 = .ok (.ireturn, 1) := by decide +kernel
theorem dX12_again_0 : decode cX12_again 0 = .ok (.aload_n 0, 1) := by decide +kernel
theorem dX12_again_1 : decode cX12_again 1 = .ok (.getfield 281, 3) := by decide +kernel
theorem dX12_again_4 : decode cX12_again 4 = .ok (.ifCond .ne 6, 3) := by decide +kernel
theorem dX12_again_7 : decode cX12_again 7 = .ok (.bipush (-3), 2) := by decide +kernel
theorem dX12_again_9 : decode cX12_again 9 = .ok (.ireturn, 1) := by decide +kernel
theorem dX12_again_10 : decode cX12_again 10 = .ok (.aload_n 0, 1) := by decide +kernel
theorem dX12_again_11 : decode cX12_again 11 = .ok (.getfield 13, 3) := by decide +kernel
theorem dX12_again_14 : decode cX12_again 14 = .ok (.aload_n 0, 1) := by decide +kernel
theorem dX12_again_15 : decode cX12_again 15 = .ok (.getfield 9, 3) := by decide +kernel
theorem dX12_again_18 : decode cX12_again 18 = .ok (.invokestatic 169, 3) := by decide +kernel
theorem dX12_again_21 : decode cX12_again 21 = .ok (.aload_n 0, 1) := by decide +kernel
theorem dX12_again_22 : decode cX12_again 22 = .ok (.getfield 9, 3) := by decide +kernel
theorem dX12_again_25 : decode cX12_again 25 = .ok (.bipush 6, 2) := by decide +kernel
theorem dX12_again_27 : decode cX12_again 27 = .ok (.iaload, 1) := by decide +kernel
theorem dX12_again_28 : decode cX12_again 28 = .ok (.ireturn, 1) := by decide +kernel

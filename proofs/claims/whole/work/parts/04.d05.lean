theorem dX5_multiplies_0 : decode cX5_multiplies 0 = .ok (.aload_n 0, 1) := by decide +kernel
theorem dX5_multiplies_1 : decode cX5_multiplies 1 = .ok (.getfield 37, 3) := by decide +kernel
theorem dX5_multiplies_4 : decode cX5_multiplies 4 = .ok (.iconst 1, 1) := by decide +kernel
theorem dX5_multiplies_5 : decode cX5_multiplies 5 = .ok (.iand, 1) := by decide +kernel
theorem dX5_multiplies_6 : decode cX5_multiplies 6 = .ok (.iconst 1, 1) := by decide +kernel
theorem dX5_multiplies_7 : decode cX5_multiplies 7 = .ok (.if_icmp .ne 18, 3) := by decide +kernel
theorem dX5_multiplies_10 : decode cX5_multiplies 10 = .ok (.aload_n 0, 1) := by decide +kernel
theorem dX5_multiplies_11 : decode cX5_multiplies 11 = .ok (.aload_n 0, 1) := by decide +kernel
theorem dX5_multiplies_12 : decode cX5_multiplies 12 = .ok (.getfield 33, 3) := by decide +kernel
theorem dX5_multiplies_15 : decode cX5_multiplies 15 = .ok (.iload_n 1, 1) := by decide +kernel
theorem dX5_multiplies_16 : decode cX5_multiplies 16 = .ok (.invokestatic 75, 3) := by decide +kernel
theorem dX5_multiplies_19 : decode cX5_multiplies 19 = .ok (.invokestatic 82, 3) := by decide +kernel
theorem dX5_multiplies_22 : decode cX5_multiplies 22 = .ok (.putfield 33, 3) := by decide +kernel
theorem dX5_multiplies_25 : decode cX5_multiplies 25 = .ok (.aload_n 0, 1) := by decide +kernel
theorem dX5_multiplies_26 : decode cX5_multiplies 26 = .ok (.aload_n 0, 1) := by decide +kernel
theorem dX5_multiplies_27 : decode cX5_multiplies 27 = .ok (.getfield 37, 3) := by decide +kernel
theorem dX5_multiplies_30 : decode cX5_multiplies 30 = .ok (.iconst 1, 1) := by decide +kernel
theorem dX5_multiplies_31 : decode cX5_multiplies 31 = .ok (.ishr, 1) := by decide +kernel
theorem dX5_multiplies_32 : decode cX5_multiplies 32 = .ok (.aload_n 0, 1) := by decide +kernel
theorem dX5_multiplies_33 : decode cX5_multiplies 33 = .ok (.getfield 33, 3) := by decide +kernel
theorem dX5_multiplies_36 : decode cX5_multiplies 36 = .ok (.iconst 1, 1) := by decide +kernel
theorem dX5_multiplies_37 : decode cX5_multiplies 37 = .ok (.iand, 1) := by decide +kernel
theorem dX5_multiplies_38 : decode cX5_multiplies 38 = .ok (.bipush 17, 2) := by decide +kernel
theorem dX5_multiplies_40 : decode cX5_multiplies 40 = .ok (.ishl, 1) := by decide +kernel
theorem dX5_multiplies_41 : decode cX5_multiplies 41 = .ok (.ior, 1) := by decide +kernel
theorem dX5_multiplies_42 : decode cX5_multiplies 42 = .ok (.putfield 37, 3) := by decide +kernel
theorem dX5_multiplies_45 : decode cX5_multiplies 45 = .ok (.aload_n 0, 1) := by decide +kernel
theorem dX5_multiplies_46 : decode cX5_multiplies 46 = .ok (.aload_n 0, 1) := by decide +kernel
theorem dX5_multiplies_47 : decode cX5_multiplies 47 = .ok (.getfield 33, 3) := by decide +kernel
theorem dX5_multiplies_50 : decode cX5_multiplies 50 = .ok (.iconst 1, 1) := by decide +kernel
theorem dX5_multiplies_51 : decode cX5_multiplies 51 = .ok (.ishr, 1) := by decide +kernel
theorem dX5_multiplies_52 : decode cX5_multiplies 52 = .ok (.putfield 33, 3) := by decide +kernel
theorem dX5_multiplies_55 : decode cX5_multiplies 55 = .ok (.return_, 1) := by decide +kernel
theorem dX5_divides_0 : decode cX5_divides 0 = .ok (.iconst 1, 1) := by decide +kernel
theorem dX5_divides_1 : decode cX5_divides 1 = .ok (.aload_n 0, 1) := by decide +kernel
theorem dX5_divides_2 : decode cX5_divides 2 = .ok (.getfield 33, 3) := by decide +kernel
theorem dX5_divides_5 : decode cX5_divides 5 = .ok (.invokestatic 79, 3) := by decide +kernel
theorem dX5_divides_8 : decode cX5_divides 8 = .ok (.isub, 1) := by decide +kernel
theorem dX5_divides_9 : decode cX5_divides 9 = .ok (.istore_n 2, 1) := by decide +kernel
theorem dX5_divides_10 : decode cX5_divides 10 = .ok (.aload_n 0, 1) := by decide +kernel
theorem dX5_divides_11 : decode cX5_divides 11 = .ok (.aload_n 0, 1) := by decide +kernel
theorem dX5_divides_12 : decode cX5_divides 12 = .ok (.getfield 33, 3) := by decide +kernel
theorem dX5_divides_15 : decode cX5_divides 15 = .ok (.iconst 1, 1) := by decide +kernel
theorem dX5_divides_16 : decode cX5_divides 16 = .ok (.ishl, 1) := by decide +kernel
theorem dX5_divides_17 : decode cX5_divides 17 = .ok (.ldc 32, 2) := by decide +kernel
theorem dX5_divides_19 : decode cX5_divides 19 = .ok (.iand, 1) := by decide +kernel
theorem dX5_divides_20 : decode cX5_divides 20 = .ok (.aload_n 0, 1) := by decide +kernel
theorem dX5_divides_21 : decode cX5_divides 21 = .ok (.getfield 37, 3) := by decide +kernel
theorem dX5_divides_24 : decode cX5_divides 24 = .ok (.invokestatic 79, 3) := by decide +kernel
theorem dX5_divides_27 : decode cX5_divides 27 = .ok (.ior, 1) := by decide +kernel
theorem dX5_divides_28 : decode cX5_divides 28 = .ok (.putfield 33, 3) := by decide +kernel
theorem dX5_divides_31 : decode cX5_divides 31 = .ok (.aload_n 0, 1) := by decide +kernel
theorem dX5_divides_32 : decode cX5_divides 32 = .ok (.aload_n 0, 1) := by decide +kernel
theorem dX5_divides_33 : decode cX5_divides 33 = .ok (.getfield 37, 3) := by decide +kernel
theorem dX5_divides_36 : decode cX5_divides 36 = .ok (.iconst 1, 1) := by decide +kernel
theorem dX5_divides_37 : decode cX5_divides 37 = .ok (.ishl, 1) := by decide +kernel
theorem dX5_divides_38 : decode cX5_divides 38 = .ok (.ldc 32, 2) := by decide +kernel
theorem dX5_divides_40 : decode cX5_divides 40 = .ok (.iand, 1) := by decide +kernel
theorem dX5_divides_41 : decode cX5_divides 41 = .ok (.iload_n 2, 1) := by decide +kernel
theorem dX5_divides_42 : decode cX5_divides 42 = .ok (.ior, 1) := by decide +kernel
theorem dX5_divides_43 : decode cX5_divides 43 = .ok (.putfield 37, 3) := by decide +kernel
theorem dX5_divides_46 : decode cX5_divides 46 = .ok (.aload_n 0, 1) := by decide +kernel
theorem dX5_divides_47 : decode cX5_divides 47 = .ok (.iload_n 2, 1) := by decide +kernel
theorem dX5_divides_48 : decode cX5_divides 48 = .ok (.iconst 1, 1) := by decide +kernel
theorem dX5_divides_49 : decode cX5_divides 49 = .ok (.if_icmp .ne 17, 3) := by decide +kernel
theorem dX5_divides_52 : decode cX5_divides 52 = .ok (.aload_n 0, 1) := by decide +kernel
theorem dX5_divides_53 : decode cX5_divides 53 = .ok (.getfield 33, 3) := by decide +kernel
theorem dX5_divides_56 : decode cX5_divides 56 = .ok (.iload_n 1, 1) := by decide +kernel
theorem dX5_divides_57 : decode cX5_divides 57 = .ok (.invokestatic 85, 3) := by decide +kernel
theorem dX5_divides_60 : decode cX5_divides 60 = .ok (.invokestatic 75, 3) := by decide +kernel
theorem dX5_divides_63 : decode cX5_divides 63 = .ok (.goto 15, 3) := by decide +kernel
theorem dX5_divides_66 : decode cX5_divides 66 = .ok (.aload_n 0, 1) := by decide +kernel
theorem dX5_divides_67 : decode cX5_divides 67 = .ok (.getfield 33, 3) := by decide +kernel
theorem dX5_divides_70 : decode cX5_divides 70 = .ok (.iload_n 1, 1) := by decide +kernel
theorem dX5_divides_71 : decode cX5_divides 71 = .ok (.invokestatic 75, 3) := by decide +kernel
theorem dX5_divides_74 : decode cX5_divides 74 = .ok (.iconst 1, 1) := by decide +kernel
theorem dX5_divides_75 : decode cX5_divides 75 = .ok (.invokestatic 75, 3) := by decide +kernel
theorem dX5_divides_78 : decode cX5_divides 78 = .ok (.invokestatic 82, 3) := by decide +kernel
theorem dX5_divides_81 : decode cX5_divides 81 = .ok (.putfield 33, 3) := by decide +kernel
theorem dX5_divides_84 : decode cX5_divides 84 = .ok (.return_, 1) := by decide +kernel
theorem dX5_ofMemory_0 : decode cX5_ofMemory 0 = .ok (.aload_n 0, 1) := by decide +kernel
theorem dX5_ofMemory_1 : decode cX5_ofMemory 1 = .ok (.getfield 7, 3) := by decide +kernel
theorem dX5_ofMemory_4 : decode cX5_ofMemory 4 = .ok (.iload_n 2, 1) := by decide +kernel
theorem dX5_ofMemory_5 : decode cX5_ofMemory 5 = .ok (.iaload, 1) := by decide +kernel
theorem dX5_ofMemory_6 : decode cX5_ofMemory 6 = .ok (.istore_n 3, 1) := by decide +kernel
theorem dX5_ofMemory_7 : decode cX5_ofMemory 7 = .ok (.iload_n 1, 1) := by decide +kernel
theorem dX5_ofMemory_8 : decode cX5_ofMemory 8 = .ok (.tableswitch 408 1 24 #[112, 125, 138, 408, 408, 408, 408, 151, 159, 167, 180, 203, 226, 239, 408, 249, 276, 309, 317, 344, 364, 384, 392, 400], 112) := by decide +kernel
theorem dX5_ofMemory_120 : decode cX5_ofMemory 120 = .ok (.aload_n 0, 1) := by decide +kernel
theorem dX5_ofMemory_121 : decode cX5_ofMemory 121 = .ok (.aload_n 0, 1) := by decide +kernel
theorem dX5_ofMemory_122 : decode cX5_ofMemory 122 = .ok (.getfield 33, 3) := by decide +kernel
theorem dX5_ofMemory_125 : decode cX5_ofMemory 125 = .ok (.iload_n 3, 1) := by decide +kernel
theorem dX5_ofMemory_126 : decode cX5_ofMemory 126 = .ok (.iand, 1) := by decide +kernel
theorem dX5_ofMemory_127 : decode cX5_ofMemory 127 = .ok (.putfield 33, 3) := by decide +kernel
theorem dX5_ofMemory_130 : decode cX5_ofMemory 130 = .ok (.goto 299, 3) := by decide +kernel
theorem dX5_ofMemory_133 : decode cX5_ofMemory 133 = .ok (.aload_n 0, 1) := by decide +kernel
theorem dX5_ofMemory_134 : decode cX5_ofMemory 134 = .ok (.aload_n 0, 1) := by decide +kernel
theorem dX5_ofMemory_135 : decode cX5_ofMemory 135 = .ok (.getfield 33, 3) := by decide +kernel
theorem dX5_ofMemory_138 : decode cX5_ofMemory 138 = .ok (.iload_n 3, 1) := by decide +kernel
theorem dX5_ofMemory_139 : decode cX5_ofMemory 139 = .ok (.ior, 1) := by decide +kernel
theorem dX5_ofMemory_140 : decode cX5_ofMemory 140 = .ok (.putfield 33, 3) := by decide +kernel
theorem dX5_ofMemory_143 : decode cX5_ofMemory 143 = .ok (.goto 286, 3) := by decide +kernel
theorem dX5_ofMemory_146 : decode cX5_ofMemory 146 = .ok (.aload_n 0, 1) := by decide +kernel
theorem dX5_ofMemory_147 : decode cX5_ofMemory 147 = .ok (.aload_n 0, 1) := by decide +kernel
theorem dX5_ofMemory_148 : decode cX5_ofMemory 148 = .ok (.getfield 33, 3) := by decide +kernel
theorem dX5_ofMemory_151 : decode cX5_ofMemory 151 = .ok (.iload_n 3, 1) := by decide +kernel
theorem dX5_ofMemory_152 : decode cX5_ofMemory 152 = .ok (.ixor, 1) := by decide +kernel
theorem dX5_ofMemory_153 : decode cX5_ofMemory 153 = .ok (.putfield 33, 3) := by decide +kernel
theorem dX5_ofMemory_156 : decode cX5_ofMemory 156 = .ok (.goto 273, 3) := by decide +kernel
theorem dX5_ofMemory_159 : decode cX5_ofMemory 159 = .ok (.aload_n 0, 1) := by decide +kernel
theorem dX5_ofMemory_160 : decode cX5_ofMemory 160 = .ok (.iload_n 3, 1) := by decide +kernel
theorem dX5_ofMemory_161 : decode cX5_ofMemory 161 = .ok (.putfield 33, 3) := by decide +kernel
theorem dX5_ofMemory_164 : decode cX5_ofMemory 164 = .ok (.goto 265, 3) := by decide +kernel
theorem dX5_ofMemory_167 : decode cX5_ofMemory 167 = .ok (.aload_n 0, 1) := by decide +kernel
theorem dX5_ofMemory_168 : decode cX5_ofMemory 168 = .ok (.iload_n 3, 1) := by decide +kernel
theorem dX5_ofMemory_169 : decode cX5_ofMemory 169 = .ok (.putfield 37, 3) := by decide +kernel
theorem dX5_ofMemory_172 : decode cX5_ofMemory 172 = .ok (.goto 257, 3) := by decide +kernel
theorem dX5_ofMemory_175 : decode cX5_ofMemory 175 = .ok (.aload_n 0, 1) := by decide +kernel
theorem dX5_ofMemory_176 : decode cX5_ofMemory 176 = .ok (.getfield 7, 3) := by decide +kernel
theorem dX5_ofMemory_179 : decode cX5_ofMemory 179 = .ok (.iload_n 2, 1) := by decide +kernel
theorem dX5_ofMemory_180 : decode cX5_ofMemory 180 = .ok (.aload_n 0, 1) := by decide +kernel
theorem dX5_ofMemory_181 : decode cX5_ofMemory 181 = .ok (.getfield 33, 3) := by decide +kernel
theorem dX5_ofMemory_184 : decode cX5_ofMemory 184 = .ok (.iastore, 1) := by decide +kernel
theorem dX5_ofMemory_185 : decode cX5_ofMemory 185 = .ok (.goto 244, 3) := by decide +kernel
theorem dX5_ofMemory_188 : decode cX5_ofMemory 188 = .ok (.aload_n 0, 1) := by decide +kernel
theorem dX5_ofMemory_189 : decode cX5_ofMemory 189 = .ok (.getfield 7, 3) := by decide +kernel
theorem dX5_ofMemory_192 : decode cX5_ofMemory 192 = .ok (.iload_n 2, 1) := by decide +kernel
theorem dX5_ofMemory_193 : decode cX5_ofMemory 193 = .ok (.iload_n 3, 1) := by decide +kernel
theorem dX5_ofMemory_194 : decode cX5_ofMemory 194 = .ok (.sipush (-4096), 3) := by decide +kernel
theorem dX5_ofMemory_197 : decode cX5_ofMemory 197 = .ok (.iand, 1) := by decide +kernel
theorem dX5_ofMemory_198 : decode cX5_ofMemory 198 = .ok (.aload_n 0, 1) := by decide +kernel
theorem dX5_ofMemory_199 : decode cX5_ofMemory 199 = .ok (.getfield 33, 3) := by decide +kernel
theorem dX5_ofMemory_202 : decode cX5_ofMemory 202 = .ok (.sipush 4095, 3) := by decide +kernel
theorem dX5_ofMemory_205 : decode cX5_ofMemory 205 = .ok (.iand, 1) := by decide +kernel
theorem dX5_ofMemory_206 : decode cX5_ofMemory 206 = .ok (.ior, 1) := by decide +kernel
theorem dX5_ofMemory_207 : decode cX5_ofMemory 207 = .ok (.iastore, 1) := by decide +kernel
theorem dX5_ofMemory_208 : decode cX5_ofMemory 208 = .ok (.goto 221, 3) := by decide +kernel
theorem dX5_ofMemory_211 : decode cX5_ofMemory 211 = .ok (.aload_n 0, 1) := by decide +kernel
theorem dX5_ofMemory_212 : decode cX5_ofMemory 212 = .ok (.getfield 7, 3) := by decide +kernel
theorem dX5_ofMemory_215 : decode cX5_ofMemory 215 = .ok (.iload_n 2, 1) := by decide +kernel
theorem dX5_ofMemory_216 : decode cX5_ofMemory 216 = .ok (.iload_n 3, 1) := by decide +kernel
theorem dX5_ofMemory_217 : decode cX5_ofMemory 217 = .ok (.sipush 4095, 3) := by decide +kernel
theorem dX5_ofMemory_220 : decode cX5_ofMemory 220 = .ok (.iand, 1) := by decide +kernel
theorem dX5_ofMemory_221 : decode cX5_ofMemory 221 = .ok (.aload_n 0, 1) := by decide +kernel
theorem dX5_ofMemory_222 : decode cX5_ofMemory 222 = .ok (.getfield 33, 3) := by decide +kernel
theorem dX5_ofMemory_225 : decode cX5_ofMemory 225 = .ok (.sipush (-4096), 3) := by decide +kernel
theorem dX5_ofMemory_228 : decode cX5_ofMemory 228 = .ok (.iand, 1) := by decide +kernel
theorem dX5_ofMemory_229 : decode cX5_ofMemory 229 = .ok (.ior, 1) := by decide +kernel
theorem dX5_ofMemory_230 : decode cX5_ofMemory 230 = .ok (.iastore, 1) := by decide +kernel
theorem dX5_ofMemory_231 : decode cX5_ofMemory 231 = .ok (.goto 198, 3) := by decide +kernel
theorem dX5_ofMemory_234 : decode cX5_ofMemory 234 = .ok (.aload_n 0, 1) := by decide +kernel
theorem dX5_ofMemory_235 : decode cX5_ofMemory 235 = .ok (.getfield 7, 3) := by decide +kernel
theorem dX5_ofMemory_238 : decode cX5_ofMemory 238 = .ok (.iload_n 2, 1) := by decide +kernel
theorem dX5_ofMemory_239 : decode cX5_ofMemory 239 = .ok (.aload_n 0, 1) := by decide +kernel
theorem dX5_ofMemory_240 : decode cX5_ofMemory 240 = .ok (.getfield 37, 3) := by decide +kernel
theorem dX5_ofMemory_243 : decode cX5_ofMemory 243 = .ok (.iastore, 1) := by decide +kernel
theorem dX5_ofMemory_244 : decode cX5_ofMemory 244 = .ok (.goto 185, 3) := by decide +kernel
theorem dX5_ofMemory_247 : decode cX5_ofMemory 247 = .ok (.aload_n 0, 1) := by decide +kernel
theorem dX5_ofMemory_248 : decode cX5_ofMemory 248 = .ok (.getfield 7, 3) := by decide +kernel
theorem dX5_ofMemory_251 : decode cX5_ofMemory 251 = .ok (.iload_n 2, 1) := by decide +kernel
theorem dX5_ofMemory_252 : decode cX5_ofMemory 252 = .ok (.iconst 0, 1) := by decide +kernel
theorem dX5_ofMemory_253 : decode cX5_ofMemory 253 = .ok (.iastore, 1) := by decide +kernel
theorem dX5_ofMemory_254 : decode cX5_ofMemory 254 = .ok (.goto 175, 3) := by decide +kernel
theorem dX5_ofMemory_257 : decode cX5_ofMemory 257 = .ok (.aload_n 0, 1) := by decide +kernel
theorem dX5_ofMemory_258 : decode cX5_ofMemory 258 = .ok (.aload_n 0, 1) := by decide +kernel
theorem dX5_ofMemory_259 : decode cX5_ofMemory 259 = .ok (.getfield 33, 3) := by decide +kernel
theorem dX5_ofMemory_262 : decode cX5_ofMemory 262 = .ok (.iload_n 3, 1) := by decide +kernel
theorem dX5_ofMemory_263 : decode cX5_ofMemory 263 = .ok (.invokevirtual 88, 3) := by decide +kernel
theorem dX5_ofMemory_266 : decode cX5_ofMemory 266 = .ok (.aload_n 0, 1) := by decide +kernel
theorem dX5_ofMemory_267 : decode cX5_ofMemory 267 = .ok (.aload_n 0, 1) := by decide +kernel
theorem dX5_ofMemory_268 : decode cX5_ofMemory 268 = .ok (.getfield 33, 3) := by decide +kernel
theorem dX5_ofMemory_271 : decode cX5_ofMemory 271 = .ok (.iload_n 3, 1) := by decide +kernel
theorem dX5_ofMemory_272 : decode cX5_ofMemory 272 = .ok (.invokestatic 75, 3) := by decide +kernel
theorem dX5_ofMemory_275 : decode cX5_ofMemory 275 = .ok (.invokestatic 82, 3) := by decide +kernel
theorem dX5_ofMemory_278 : decode cX5_ofMemory 278 = .ok (.putfield 33, 3) := by decide +kernel
theorem dX5_ofMemory_281 : decode cX5_ofMemory 281 = .ok (.goto 148, 3) := by decide +kernel
theorem dX5_ofMemory_284 : decode cX5_ofMemory 284 = .ok (.aload_n 0, 1) := by decide +kernel
theorem dX5_ofMemory_285 : decode cX5_ofMemory 285 = .ok (.aload_n 0, 1) := by decide +kernel
theorem dX5_ofMemory_286 : decode cX5_ofMemory 286 = .ok (.getfield 33, 3) := by decide +kernel
theorem dX5_ofMemory_289 : decode cX5_ofMemory 289 = .ok (.invokestatic 85, 3) := by decide +kernel
theorem dX5_ofMemory_292 : decode cX5_ofMemory 292 = .ok (.iload_n 3, 1) := by decide +kernel
theorem dX5_ofMemory_293 : decode cX5_ofMemory 293 = .ok (.invokevirtual 88, 3) := by decide +kernel
theorem dX5_ofMemory_296 : decode cX5_ofMemory 296 = .ok (.aload_n 0, 1) := by decide +kernel
theorem dX5_ofMemory_297 : decode cX5_ofMemory 297 = .ok (.aload_n 0, 1) := by decide +kernel
theorem dX5_ofMemory_298 : decode cX5_ofMemory 298 = .ok (.getfield 33, 3) := by decide +kernel
theorem dX5_ofMemory_301 : decode cX5_ofMemory 301 = .ok (.invokestatic 85, 3) := by decide +kernel
theorem dX5_ofMemory_304 : decode cX5_ofMemory 304 = .ok (.iload_n 3, 1) := by decide +kernel
theorem dX5_ofMemory_305 : decode cX5_ofMemory 305 = .ok (.invokestatic 75, 3) := by decide +kernel
theorem dX5_ofMemory_308 : decode cX5_ofMemory 308 = .ok (.invokestatic 85, 3) := by decide +kernel
theorem dX5_ofMemory_311 : decode cX5_ofMemory 311 = .ok (.putfield 33, 3) := by decide +kernel
theorem dX5_ofMemory_314 : decode cX5_ofMemory 314 = .ok (.goto 115, 3) := by decide +kernel
theorem dX5_ofMemory_317 : decode cX5_ofMemory 317 = .ok (.aload_n 0, 1) := by decide +kernel
theorem dX5_ofMemory_318 : decode cX5_ofMemory 318 = .ok (.iload_n 2, 1) := by decide +kernel
theorem dX5_ofMemory_319 : decode cX5_ofMemory 319 = .ok (.invokevirtual 92, 3) := by decide +kernel
theorem dX5_ofMemory_322 : decode cX5_ofMemory 322 = .ok (.goto 107, 3) := by decide +kernel
theorem dX5_ofMemory_325 : decode cX5_ofMemory 325 = .ok (.aload_n 0, 1) := by decide +kernel
theorem dX5_ofMemory_326 : decode cX5_ofMemory 326 = .ok (.iload_n 2, 1) := by decide +kernel
theorem dX5_ofMemory_327 : decode cX5_ofMemory 327 = .ok (.invokevirtual 92, 3) := by decide +kernel
theorem dX5_ofMemory_330 : decode cX5_ofMemory 330 = .ok (.aload_n 0, 1) := by decide +kernel
theorem dX5_ofMemory_331 : decode cX5_ofMemory 331 = .ok (.aload_n 0, 1) := by decide +kernel
theorem dX5_ofMemory_332 : decode cX5_ofMemory 332 = .ok (.getfield 33, 3) := by decide +kernel
theorem dX5_ofMemory_335 : decode cX5_ofMemory 335 = .ok (.invokestatic 79, 3) := by decide +kernel
theorem dX5_ofMemory_338 : decode cX5_ofMemory 338 = .ok (.ifCond .ne 7, 3) := by decide +kernel
theorem dX5_ofMemory_341 : decode cX5_ofMemory 341 = .ok (.iconst 1, 1) := by decide +kernel
theorem dX5_ofMemory_342 : decode cX5_ofMemory 342 = .ok (.goto 4, 3) := by decide +kernel
theorem dX5_ofMemory_345 : decode cX5_ofMemory 345 = .ok (.iconst 0, 1) := by decide +kernel
theorem dX5_ofMemory_346 : decode cX5_ofMemory 346 = .ok (.invokevirtual 96, 3) := by decide +kernel
theorem dX5_ofMemory_349 : decode cX5_ofMemory 349 = .ok (.goto 80, 3) := by decide +kernel
theorem dX5_ofMemory_352 : decode cX5_ofMemory 352 = .ok (.aload_n 0, 1) := by decide +kernel
theorem dX5_ofMemory_353 : decode cX5_ofMemory 353 = .ok (.aload_n 0, 1) := by decide +kernel
theorem dX5_ofMemory_354 : decode cX5_ofMemory 354 = .ok (.getfield 33, 3) := by decide +kernel
theorem dX5_ofMemory_357 : decode cX5_ofMemory 357 = .ok (.iload_n 3, 1) := by decide +kernel
theorem dX5_ofMemory_358 : decode cX5_ofMemory 358 = .ok (.if_icmp .eq 7, 3) := by decide +kernel
theorem dX5_ofMemory_361 : decode cX5_ofMemory 361 = .ok (.iconst 1, 1) := by decide +kernel
theorem dX5_ofMemory_362 : decode cX5_ofMemory 362 = .ok (.goto 4, 3) := by decide +kernel
theorem dX5_ofMemory_365 : decode cX5_ofMemory 365 = .ok (.iconst 0, 1) := by decide +kernel
theorem dX5_ofMemory_366 : decode cX5_ofMemory 366 = .ok (.invokevirtual 96, 3) := by decide +kernel
theorem dX5_ofMemory_369 : decode cX5_ofMemory 369 = .ok (.goto 60, 3) := by decide +kernel
theorem dX5_ofMemory_372 : decode cX5_ofMemory 372 = .ok (.aload_n 0, 1) := by decide +kernel
theorem dX5_ofMemory_373 : decode cX5_ofMemory 373 = .ok (.aload_n 0, 1) := by decide +kernel
theorem dX5_ofMemory_374 : decode cX5_ofMemory 374 = .ok (.getfield 33, 3) := by decide +kernel
theorem dX5_ofMemory_377 : decode cX5_ofMemory 377 = .ok (.iload_n 3, 1) := by decide +kernel
theorem dX5_ofMemory_378 : decode cX5_ofMemory 378 = .ok (.if_icmp .ne 7, 3) := by decide +kernel
theorem dX5_ofMemory_381 : decode cX5_ofMemory 381 = .ok (.iconst 1, 1) := by decide +kernel
theorem dX5_ofMemory_382 : decode cX5_ofMemory 382 = .ok (.goto 4, 3) := by decide +kernel
theorem dX5_ofMemory_385 : decode cX5_ofMemory 385 = .ok (.iconst 0, 1) := by decide +kernel
theorem dX5_ofMemory_386 : decode cX5_ofMemory 386 = .ok (.invokevirtual 96, 3) := by decide +kernel
theorem dX5_ofMemory_389 : decode cX5_ofMemory 389 = .ok (.goto 40, 3) := by decide +kernel
theorem dX5_ofMemory_392 : decode cX5_ofMemory 392 = .ok (.aload_n 0, 1) := by decide +kernel
theorem dX5_ofMemory_393 : decode cX5_ofMemory 393 = .ok (.iload_n 3, 1) := by decide +kernel
theorem dX5_ofMemory_394 : decode cX5_ofMemory 394 = .ok (.invokevirtual 100, 3) := by decide +kernel
theorem dX5_ofMemory_397 : decode cX5_ofMemory 397 = .ok (.goto 32, 3) := by decide +kernel
theorem dX5_ofMemory_400 : decode cX5_ofMemory 400 = .ok (.aload_n 0, 1) := by decide +kernel
theorem dX5_ofMemory_401 : decode cX5_ofMemory 401 = .ok (.iload_n 3, 1) := by decide +kernel
theorem dX5_ofMemory_402 : decode cX5_ofMemory 402 = .ok (.invokevirtual 103, 3) := by decide +kernel
theorem dX5_ofMemory_405 : decode cX5_ofMemory 405 = .ok (.goto 24, 3) := by decide +kernel
theorem dX5_ofMemory_408 : decode cX5_ofMemory 408 = .ok (.aload_n 0, 1) := by decide +kernel
theorem dX5_ofMemory_409 : decode cX5_ofMemory 409 = .ok (.iload_n 2, 1) := by decide +kernel
theorem dX5_ofMemory_410 : decode cX5_ofMemory 410 = .ok (.putfield 40, 3) := by decide +kernel
theorem dX5_ofMemory_413 : decode cX5_ofMemory 413 = .ok (.goto 16, 3) := by decide +kernel
theorem dX5_ofMemory_416 : decode cX5_ofMemory 416 = .ok (.aload_n 0, 1) := by decide +kernel
theorem dX5_ofMemory_417 : decode cX5_ofMemory 417 = .ok (.aload_n 0, 1) := by decide +kernel
theorem dX5_ofMemory_418 : decode cX5_ofMemory 418 = .ok (.invokevirtual 106, 3) := by decide +kernel
theorem dX5_ofMemory_421 : decode cX5_ofMemory 421 = .ok (.putfield 33, 3) := by decide +kernel
theorem dX5_ofMemory_424 : decode cX5_ofMemory 424 = .ok (.aload_n 0, 1) := by decide +kernel
theorem dX5_ofMemory_425 : decode cX5_ofMemory 425 = .ok (.iload_n 2, 1) := by decide +kernel
theorem dX5_ofMemory_426 : decode cX5_ofMemory 426 = .ok (.putfield 40, 3) := by decide +kernel
theorem dX5_ofMemory_429 : decode cX5_ofMemory 429 = .ok (.return_, 1) := by decide +kernel
theorem dX5_calls_0 : decode cX5_calls 0 = .ok (.aload_n 0, 1) := by decide +kernel
theorem dX5_calls_1 : decode cX5_calls 1 = .ok (.getfield 7, 3) := by decide +kernel
theorem dX5_calls_4 : decode cX5_calls 4 = .ok (.iload_n 1, 1) := by decide +kernel
theorem dX5_calls_5 : decode cX5_calls 5 = .ok (.aload_n 0, 1) := by decide +kernel
theorem dX5_calls_6 : decode cX5_calls 6 = .ok (.getfield 33, 3) := by decide +kernel
theorem dX5_calls_9 : decode cX5_calls 9 = .ok (.iastore, 1) := by decide +kernel
theorem dX5_calls_10 : decode cX5_calls 10 = .ok (.aload_n 0, 1) := by decide +kernel
theorem dX5_calls_11 : decode cX5_calls 11 = .ok (.aload_n 0, 1) := by decide +kernel
theorem dX5_calls_12 : decode cX5_calls 12 = .ok (.invokevirtual 106, 3) := by decide +kernel
theorem dX5_calls_15 : decode cX5_calls 15 = .ok (.putfield 33, 3) := by decide +kernel
theorem dX5_calls_18 : decode cX5_calls 18 = .ok (.aload_n 0, 1) := by decide +kernel
theorem dX5_calls_19 : decode cX5_calls 19 = .ok (.iload_n 1, 1) := by decide +kernel
theorem dX5_calls_20 : decode cX5_calls 20 = .ok (.iconst 1, 1) := by decide +kernel
theorem dX5_calls_21 : decode cX5_calls 21 = .ok (.iadd, 1) := by decide +kernel
theorem dX5_calls_22 : decode cX5_calls 22 = .ok (.sipush 4095, 3) := by decide +kernel
theorem dX5_calls_25 : decode cX5_calls 25 = .ok (.iand, 1) := by decide +kernel
theorem dX5_calls_26 : decode cX5_calls 26 = .ok (.putfield 40, 3) := by decide +kernel
theorem dX5_calls_29 : decode cX5_calls 29 = .ok (.return_, 1) := by decide +kernel
theorem dX5_asksSkip_0 : decode cX5_asksSkip 0 = .ok (.iload_n 1, 1) := by decide +kernel
theorem dX5_asksSkip_1 : decode cX5_asksSkip 1 = .ok (.iconst 3, 1) := by decide +kernel
theorem dX5_asksSkip_2 : decode cX5_asksSkip 2 = .ok (.ishr, 1) := by decide +kernel
theorem dX5_asksSkip_3 : decode cX5_asksSkip 3 = .ok (.bipush 7, 2) := by decide +kernel
theorem dX5_asksSkip_5 : decode cX5_asksSkip 5 = .ok (.iand, 1) := by decide +kernel
theorem dX5_asksSkip_6 : decode cX5_asksSkip 6 = .ok (.istore_n 2, 1) := by decide +kernel
theorem dX5_asksSkip_7 : decode cX5_asksSkip 7 = .ok (.iload_n 1, 1) := by decide +kernel
theorem dX5_asksSkip_8 : decode cX5_asksSkip 8 = .ok (.bipush 7, 2) := by decide +kernel
theorem dX5_asksSkip_10 : decode cX5_asksSkip 10 = .ok (.iand, 1) := by decide +kernel
theorem dX5_asksSkip_11 : decode cX5_asksSkip 11 = .ok (.istore_n 3, 1) := by decide +kernel
theorem dX5_asksSkip_12 : decode cX5_asksSkip 12 = .ok (.iload_n 1, 1) := by decide +kernel
theorem dX5_asksSkip_13 : decode cX5_asksSkip 13 = .ok (.bipush 64, 2) := by decide +kernel
theorem dX5_asksSkip_15 : decode cX5_asksSkip 15 = .ok (.iand, 1) := by decide +kernel
theorem dX5_asksSkip_16 : decode cX5_asksSkip 16 = .ok (.ifCond .le 10, 3) := by decide +kernel
theorem dX5_asksSkip_19 : decode cX5_asksSkip 19 = .ok (.aload_n 0, 1) := by decide +kernel
theorem dX5_asksSkip_20 : decode cX5_asksSkip 20 = .ok (.getfield 33, 3) := by decide +kernel
theorem dX5_asksSkip_23 : decode cX5_asksSkip 23 = .ok (.ifCond .eq 73, 3) := by decide +kernel
theorem dX5_asksSkip_26 : decode cX5_asksSkip 26 = .ok (.iload_n 1, 1) := by decide +kernel
theorem dX5_asksSkip_27 : decode cX5_asksSkip 27 = .ok (.sipush 128, 3) := by decide +kernel
theorem dX5_asksSkip_30 : decode cX5_asksSkip 30 = .ok (.iand, 1) := by decide +kernel
theorem dX5_asksSkip_31 : decode cX5_asksSkip 31 = .ok (.ifCond .le 13, 3) := by decide +kernel
theorem dX5_asksSkip_34 : decode cX5_asksSkip 34 = .ok (.aload_n 0, 1) := by decide +kernel
theorem dX5_asksSkip_35 : decode cX5_asksSkip 35 = .ok (.getfield 33, 3) := by decide +kernel
theorem dX5_asksSkip_38 : decode cX5_asksSkip 38 = .ok (.invokestatic 79, 3) := by decide +kernel
theorem dX5_asksSkip_41 : decode cX5_asksSkip 41 = .ok (.ifCond .eq 55, 3) := by decide +kernel
theorem dX5_asksSkip_44 : decode cX5_asksSkip 44 = .ok (.iload_n 1, 1) := by decide +kernel
theorem dX5_asksSkip_45 : decode cX5_asksSkip 45 = .ok (.sipush 256, 3) := by decide +kernel
theorem dX5_asksSkip_48 : decode cX5_asksSkip 48 = .ok (.iand, 1) := by decide +kernel
theorem dX5_asksSkip_49 : decode cX5_asksSkip 49 = .ok (.ifCond .le 14, 3) := by decide +kernel
theorem dX5_asksSkip_52 : decode cX5_asksSkip 52 = .ok (.aload_n 0, 1) := by decide +kernel
theorem dX5_asksSkip_53 : decode cX5_asksSkip 53 = .ok (.getfield 33, 3) := by decide +kernel
theorem dX5_asksSkip_56 : decode cX5_asksSkip 56 = .ok (.invokestatic 79, 3) := by decide +kernel
theorem dX5_asksSkip_59 : decode cX5_asksSkip 59 = .ok (.iconst 1, 1) := by decide +kernel
theorem dX5_asksSkip_60 : decode cX5_asksSkip 60 = .ok (.if_icmp .eq 36, 3) := by decide +kernel
theorem dX5_asksSkip_63 : decode cX5_asksSkip 63 = .ok (.iload_n 1, 1) := by decide +kernel
theorem dX5_asksSkip_64 : decode cX5_asksSkip 64 = .ok (.sipush 512, 3) := by decide +kernel
theorem dX5_asksSkip_67 : decode cX5_asksSkip 67 = .ok (.iand, 1) := by decide +kernel
theorem dX5_asksSkip_68 : decode cX5_asksSkip 68 = .ok (.ifCond .le 10, 3) := by decide +kernel
theorem dX5_asksSkip_71 : decode cX5_asksSkip 71 = .ok (.aload_n 0, 1) := by decide +kernel
theorem dX5_asksSkip_72 : decode cX5_asksSkip 72 = .ok (.getfield 43, 3) := by decide +kernel
theorem dX5_asksSkip_75 : decode cX5_asksSkip 75 = .ok (.ifCond .eq 21, 3) := by decide +kernel
theorem dX5_asksSkip_78 : decode cX5_asksSkip 78 = .ok (.iload_n 1, 1) := by decide +kernel
theorem dX5_asksSkip_79 : decode cX5_asksSkip 79 = .ok (.sipush 1024, 3) := by decide +kernel
theorem dX5_asksSkip_82 : decode cX5_asksSkip 82 = .ok (.iand, 1) := by decide +kernel
theorem dX5_asksSkip_83 : decode cX5_asksSkip 83 = .ok (.ifCond .le 17, 3) := by decide +kernel
theorem dX5_asksSkip_86 : decode cX5_asksSkip 86 = .ok (.aload_n 0, 1) := by decide +kernel
theorem dX5_asksSkip_87 : decode cX5_asksSkip 87 = .ok (.getfield 37, 3) := by decide +kernel
theorem dX5_asksSkip_90 : decode cX5_asksSkip 90 = .ok (.invokestatic 79, 3) := by decide +kernel
theorem dX5_asksSkip_93 : decode cX5_asksSkip 93 = .ok (.ifCond .ne 7, 3) := by decide +kernel
theorem dX5_asksSkip_96 : decode cX5_asksSkip 96 = .ok (.iconst 1, 1) := by decide +kernel
theorem dX5_asksSkip_97 : decode cX5_asksSkip 97 = .ok (.goto 4, 3) := by decide +kernel
theorem dX5_asksSkip_100 : decode cX5_asksSkip 100 = .ok (.iconst 0, 1) := by decide +kernel
theorem dX5_asksSkip_101 : decode cX5_asksSkip 101 = .ok (.istore 4, 2) := by decide +kernel
theorem dX5_asksSkip_103 : decode cX5_asksSkip 103 = .ok (.iload 4, 2) := by decide +kernel
theorem dX5_asksSkip_105 : decode cX5_asksSkip 105 = .ok (.ifCond .ne 39, 3) := by decide +kernel
theorem dX5_asksSkip_108 : decode cX5_asksSkip 108 = .ok (.iload_n 2, 1) := by decide +kernel
theorem dX5_asksSkip_109 : decode cX5_asksSkip 109 = .ok (.bipush 7, 2) := by decide +kernel
theorem dX5_asksSkip_111 : decode cX5_asksSkip 111 = .ok (.if_icmp .ne 10, 3) := by decide +kernel
theorem dX5_asksSkip_114 : decode cX5_asksSkip 114 = .ok (.aload_n 0, 1) := by decide +kernel
theorem dX5_asksSkip_115 : decode cX5_asksSkip 115 = .ok (.getfield 63, 3) := by decide +kernel
theorem dX5_asksSkip_118 : decode cX5_asksSkip 118 = .ok (.ifCond .eq 26, 3) := by decide +kernel
theorem dX5_asksSkip_121 : decode cX5_asksSkip 121 = .ok (.iload_n 2, 1) := by decide +kernel
theorem dX5_asksSkip_122 : decode cX5_asksSkip 122 = .ok (.ifCond .le 26, 3) := by decide +kernel
theorem dX5_asksSkip_125 : decode cX5_asksSkip 125 = .ok (.iload_n 2, 1) := by decide +kernel
theorem dX5_asksSkip_126 : decode cX5_asksSkip 126 = .ok (.bipush 7, 2) := by decide +kernel
theorem dX5_asksSkip_128 : decode cX5_asksSkip 128 = .ok (.if_icmp .ge 20, 3) := by decide +kernel
theorem dX5_asksSkip_131 : decode cX5_asksSkip 131 = .ok (.aload_n 0, 1) := by decide +kernel
theorem dX5_asksSkip_132 : decode cX5_asksSkip 132 = .ok (.getfield 63, 3) := by decide +kernel
theorem dX5_asksSkip_135 : decode cX5_asksSkip 135 = .ok (.iload_n 2, 1) := by decide +kernel
theorem dX5_asksSkip_136 : decode cX5_asksSkip 136 = .ok (.iconst 1, 1) := by decide +kernel
theorem dX5_asksSkip_137 : decode cX5_asksSkip 137 = .ok (.isub, 1) := by decide +kernel
theorem dX5_asksSkip_138 : decode cX5_asksSkip 138 = .ok (.ishr, 1) := by decide +kernel
theorem dX5_asksSkip_139 : decode cX5_asksSkip 139 = .ok (.iconst 1, 1) := by decide +kernel
theorem dX5_asksSkip_140 : decode cX5_asksSkip 140 = .ok (.iand, 1) := by decide +kernel
theorem dX5_asksSkip_141 : decode cX5_asksSkip 141 = .ok (.ifCond .ne 7, 3) := by decide +kernel
theorem dX5_asksSkip_144 : decode cX5_asksSkip 144 = .ok (.iconst 1, 1) := by decide +kernel
theorem dX5_asksSkip_145 : decode cX5_asksSkip 145 = .ok (.goto 4, 3) := by decide +kernel
theorem dX5_asksSkip_148 : decode cX5_asksSkip 148 = .ok (.iconst 0, 1) := by decide +kernel
theorem dX5_asksSkip_149 : decode cX5_asksSkip 149 = .ok (.istore 4, 2) := by decide +kernel
theorem dX5_asksSkip_151 : decode cX5_asksSkip 151 = .ok (.iload 4, 2) := by decide +kernel
theorem dX5_asksSkip_153 : decode cX5_asksSkip 153 = .ok (.ifCond .ne 39, 3) := by decide +kernel
theorem dX5_asksSkip_156 : decode cX5_asksSkip 156 = .ok (.iload_n 3, 1) := by decide +kernel
theorem dX5_asksSkip_157 : decode cX5_asksSkip 157 = .ok (.bipush 7, 2) := by decide +kernel
theorem dX5_asksSkip_159 : decode cX5_asksSkip 159 = .ok (.if_icmp .ne 10, 3) := by decide +kernel
theorem dX5_asksSkip_162 : decode cX5_asksSkip 162 = .ok (.aload_n 0, 1) := by decide +kernel
theorem dX5_asksSkip_163 : decode cX5_asksSkip 163 = .ok (.getfield 46, 3) := by decide +kernel
theorem dX5_asksSkip_166 : decode cX5_asksSkip 166 = .ok (.ifCond .eq 26, 3) := by decide +kernel
theorem dX5_asksSkip_169 : decode cX5_asksSkip 169 = .ok (.iload_n 3, 1) := by decide +kernel
theorem dX5_asksSkip_170 : decode cX5_asksSkip 170 = .ok (.ifCond .le 26, 3) := by decide +kernel
theorem dX5_asksSkip_173 : decode cX5_asksSkip 173 = .ok (.iload_n 3, 1) := by decide +kernel
theorem dX5_asksSkip_174 : decode cX5_asksSkip 174 = .ok (.bipush 7, 2) := by decide +kernel
theorem dX5_asksSkip_176 : decode cX5_asksSkip 176 = .ok (.if_icmp .ge 20, 3) := by decide +kernel
theorem dX5_asksSkip_179 : decode cX5_asksSkip 179 = .ok (.aload_n 0, 1) := by decide +kernel
theorem dX5_asksSkip_180 : decode cX5_asksSkip 180 = .ok (.getfield 46, 3) := by decide +kernel
theorem dX5_asksSkip_183 : decode cX5_asksSkip 183 = .ok (.iload_n 3, 1) := by decide +kernel
theorem dX5_asksSkip_184 : decode cX5_asksSkip 184 = .ok (.iconst 1, 1) := by decide +kernel
theorem dX5_asksSkip_185 : decode cX5_asksSkip 185 = .ok (.isub, 1) := by decide +kernel
theorem dX5_asksSkip_186 : decode cX5_asksSkip 186 = .ok (.ishr, 1) := by decide +kernel
theorem dX5_asksSkip_187 : decode cX5_asksSkip 187 = .ok (.iconst 1, 1) := by decide +kernel
theorem dX5_asksSkip_188 : decode cX5_asksSkip 188 = .ok (.iand, 1) := by decide +kernel
theorem dX5_asksSkip_189 : decode cX5_asksSkip 189 = .ok (.ifCond .ne 7, 3) := by decide +kernel
theorem dX5_asksSkip_192 : decode cX5_asksSkip 192 = .ok (.iconst 1, 1) := by decide +kernel
theorem dX5_asksSkip_193 : decode cX5_asksSkip 193 = .ok (.goto 4, 3) := by decide +kernel
theorem dX5_asksSkip_196 : decode cX5_asksSkip 196 = .ok (.iconst 0, 1) := by decide +kernel
theorem dX5_asksSkip_197 : decode cX5_asksSkip 197 = .ok (.istore 4, 2) := by decide +kernel
theorem dX5_asksSkip_199 : decode cX5_asksSkip 199 = .ok (.aload_n 0, 1) := by decide +kernel
theorem dX5_asksSkip_200 : decode cX5_asksSkip 200 = .ok (.iload_n 1, 1) := by decide +kernel
theorem dX5_asksSkip_201 : decode cX5_asksSkip 201 = .ok (.sipush 512, 3) := by decide +kernel
theorem dX5_asksSkip_204 : decode cX5_asksSkip 204 = .ok (.iand, 1) := by decide +kernel
theorem dX5_asksSkip_205 : decode cX5_asksSkip 205 = .ok (.ifCond .le 7, 3) := by decide +kernel
theorem dX5_asksSkip_208 : decode cX5_asksSkip 208 = .ok (.iconst 0, 1) := by decide +kernel
theorem dX5_asksSkip_209 : decode cX5_asksSkip 209 = .ok (.goto 7, 3) := by decide +kernel
theorem dX5_asksSkip_212 : decode cX5_asksSkip 212 = .ok (.aload_n 0, 1) := by decide +kernel
theorem dX5_asksSkip_213 : decode cX5_asksSkip 213 = .ok (.getfield 43, 3) := by decide +kernel
theorem dX5_asksSkip_216 : decode cX5_asksSkip 216 = .ok (.putfield 43, 3) := by decide +kernel
theorem dX5_asksSkip_219 : decode cX5_asksSkip 219 = .ok (.aload_n 0, 1) := by decide +kernel
theorem dX5_asksSkip_220 : decode cX5_asksSkip 220 = .ok (.iload 4, 2) := by decide +kernel
theorem dX5_asksSkip_222 : decode cX5_asksSkip 222 = .ok (.iload_n 1, 1) := by decide +kernel
theorem dX5_asksSkip_223 : decode cX5_asksSkip 223 = .ok (.bipush 12, 2) := by decide +kernel
theorem dX5_asksSkip_225 : decode cX5_asksSkip 225 = .ok (.ishr, 1) := by decide +kernel
theorem dX5_asksSkip_226 : decode cX5_asksSkip 226 = .ok (.iconst 1, 1) := by decide +kernel
theorem dX5_asksSkip_227 : decode cX5_asksSkip 227 = .ok (.iand, 1) := by decide +kernel
theorem dX5_asksSkip_228 : decode cX5_asksSkip 228 = .ok (.iconst 1, 1) := by decide +kernel
theorem dX5_asksSkip_229 : decode cX5_asksSkip 229 = .ok (.if_icmp .ne 7, 3) := by decide +kernel
theorem dX5_asksSkip_232 : decode cX5_asksSkip 232 = .ok (.iconst 1, 1) := by decide +kernel
theorem dX5_asksSkip_233 : decode cX5_asksSkip 233 = .ok (.goto 4, 3) := by decide +kernel
theorem dX5_asksSkip_236 : decode cX5_asksSkip 236 = .ok (.iconst 0, 1) := by decide +kernel
theorem dX5_asksSkip_237 : decode cX5_asksSkip 237 = .ok (.if_icmp .eq 7, 3) := by decide +kernel
theorem dX5_asksSkip_240 : decode cX5_asksSkip 240 = .ok (.iconst 1, 1) := by decide +kernel
theorem dX5_asksSkip_241 : decode cX5_asksSkip 241 = .ok (.goto 4, 3) := by decide +kernel
theorem dX5_asksSkip_244 : decode cX5_asksSkip 244 = .ok (.iconst 0, 1) := by decide +kernel
theorem dX5_asksSkip_245 : decode cX5_asksSkip 245 = .ok (.invokevirtual 96, 3) := by decide +kernel
theorem dX5_asksSkip_248 : decode cX5_asksSkip 248 = .ok (.return_, 1) := by decide +kernel
theorem dX5_moved_0 : decode cX5_moved 0 = .ok (.lload_n 0, 1) := by decide +kernel
theorem dX5_moved_1 : decode cX5_moved 1 = .ok (.iload_n 2, 1) := by decide +kernel
theorem dX5_moved_2 : decode cX5_moved 2 = .ok (.iconst 1, 1) := by decide +kernel
theorem dX5_moved_3 : decode cX5_moved 3 = .ok (.isub, 1) := by decide +kernel
theorem dX5_moved_4 : decode cX5_moved 4 = .ok (.lshr, 1) := by decide +kernel
theorem dX5_moved_5 : decode cX5_moved 5 = .ok (.lconst 1, 1) := by decide +kernel
theorem dX5_moved_6 : decode cX5_moved 6 = .ok (.land, 1) := by decide +kernel
theorem dX5_moved_7 : decode cX5_moved 7 = .ok (.lstore 4, 2) := by decide +kernel
theorem dX5_moved_9 : decode cX5_moved 9 = .ok (.lconst 1, 1) := by decide +kernel
theorem dX5_moved_10 : decode cX5_moved 10 = .ok (.iload_n 2, 1) := by decide +kernel
theorem dX5_moved_11 : decode cX5_moved 11 = .ok (.lshl, 1) := by decide +kernel
theorem dX5_moved_12 : decode cX5_moved 12 = .ok (.lconst 1, 1) := by decide +kernel
theorem dX5_moved_13 : decode cX5_moved 13 = .ok (.lsub, 1) := by decide +kernel
theorem dX5_moved_14 : decode cX5_moved 14 = .ok (.lstore 6, 2) := by decide +kernel
theorem dX5_moved_16 : decode cX5_moved 16 = .ok (.lconst 1, 1) := by decide +kernel
theorem dX5_moved_17 : decode cX5_moved 17 = .ok (.iload_n 2, 1) := by decide +kernel
theorem dX5_moved_18 : decode cX5_moved 18 = .ok (.iconst 1, 1) := by decide +kernel
theorem dX5_moved_19 : decode cX5_moved 19 = .ok (.isub, 1) := by decide +kernel
theorem dX5_moved_20 : decode cX5_moved 20 = .ok (.lshl, 1) := by decide +kernel
theorem dX5_moved_21 : decode cX5_moved 21 = .ok (.lstore 8, 2) := by decide +kernel
theorem dX5_moved_23 : decode cX5_moved 23 = .ok (.iload_n 3, 1) := by decide +kernel
theorem dX5_moved_24 : decode cX5_moved 24 = .ok (.tableswitch 72 0 2 #[28, 38, 61], 28) := by decide +kernel
theorem dX5_moved_52 : decode cX5_moved 52 = .ok (.lload_n 0, 1) := by decide +kernel
theorem dX5_moved_53 : decode cX5_moved 53 = .ok (.iconst 1, 1) := by decide +kernel
theorem dX5_moved_54 : decode cX5_moved 54 = .ok (.lshl, 1) := by decide +kernel
theorem dX5_moved_55 : decode cX5_moved 55 = .ok (.lload 6, 2) := by decide +kernel
theorem dX5_moved_57 : decode cX5_moved 57 = .ok (.land, 1) := by decide +kernel
theorem dX5_moved_58 : decode cX5_moved 58 = .ok (.lload 4, 2) := by decide +kernel
theorem dX5_moved_60 : decode cX5_moved 60 = .ok (.lor, 1) := by decide +kernel
theorem dX5_moved_61 : decode cX5_moved 61 = .ok (.lreturn, 1) := by decide +kernel
theorem dX5_moved_62 : decode cX5_moved 62 = .ok (.lload 4, 2) := by decide +kernel
theorem dX5_moved_64 : decode cX5_moved 64 = .ok (.lload 8, 2) := by decide +kernel
theorem dX5_moved_66 : decode cX5_moved 66 = .ok (.lmul, 1) := by decide +kernel
theorem dX5_moved_67 : decode cX5_moved 67 = .ok (.lload_n 0, 1) := by decide +kernel
theorem dX5_moved_68 : decode cX5_moved 68 = .ok (.iconst 1, 1) := by decide +kernel
theorem dX5_moved_69 : decode cX5_moved 69 = .ok (.lshl, 1) := by decide +kernel
theorem dX5_moved_70 : decode cX5_moved 70 = .ok (.lload 6, 2) := by decide +kernel
theorem dX5_moved_72 : decode cX5_moved 72 = .ok (.land, 1) := by decide +kernel
theorem dX5_moved_73 : decode cX5_moved 73 = .ok (.lload 8, 2) := by decide +kernel
theorem dX5_moved_75 : decode cX5_moved 75 = .ok (.ldc2_w 110, 3) := by decide +kernel
theorem dX5_moved_78 : decode cX5_moved 78 = .ok (.lxor, 1) := by decide +kernel
theorem dX5_moved_79 : decode cX5_moved 79 = .ok (.land, 1) := by decide +kernel
theorem dX5_moved_80 : decode cX5_moved 80 = .ok (.lor, 1) := by decide +kernel
theorem dX5_moved_81 : decode cX5_moved 81 = .ok (.lload 4, 2) := by decide +kernel
theorem dX5_moved_83 : decode cX5_moved 83 = .ok (.lor, 1) := by decide +kernel
theorem dX5_moved_84 : decode cX5_moved 84 = .ok (.lreturn, 1) := by decide +kernel
theorem dX5_moved_85 : decode cX5_moved 85 = .ok (.lload_n 0, 1) := by decide +kernel
theorem dX5_moved_86 : decode cX5_moved 86 = .ok (.iconst 1, 1) := by decide +kernel
theorem dX5_moved_87 : decode cX5_moved 87 = .ok (.lshr, 1) := by decide +kernel
theorem dX5_moved_88 : decode cX5_moved 88 = .ok (.lload_n 0, 1) := by decide +kernel
theorem dX5_moved_89 : decode cX5_moved 89 = .ok (.lconst 1, 1) := by decide +kernel
theorem dX5_moved_90 : decode cX5_moved 90 = .ok (.land, 1) := by decide +kernel
theorem dX5_moved_91 : decode cX5_moved 91 = .ok (.lload 8, 2) := by decide +kernel
theorem dX5_moved_93 : decode cX5_moved 93 = .ok (.lmul, 1) := by decide +kernel
theorem dX5_moved_94 : decode cX5_moved 94 = .ok (.lor, 1) := by decide +kernel
theorem dX5_moved_95 : decode cX5_moved 95 = .ok (.lreturn, 1) := by decide +kernel
theorem dX5_moved_96 : decode cX5_moved 96 = .ok (.lload_n 0, 1) := by decide +kernel
theorem dX5_moved_97 : decode cX5_moved 97 = .ok (.iconst 1, 1) := by decide +kernel
theorem dX5_moved_98 : decode cX5_moved 98 = .ok (.lshr, 1) := by decide +kernel
theorem dX5_moved_99 : decode cX5_moved 99 = .ok (.lload 4, 2) := by decide +kernel
theorem dX5_moved_101 : decode cX5_moved 101 = .ok (.lload 8, 2) := by decide +kernel
theorem dX5_moved_103 : decode cX5_moved 103 = .ok (.lmul, 1) := by decide +kernel
theorem dX5_moved_104 : decode cX5_moved 104 = .ok (.lor, 1) := by decide +kernel
theorem dX5_moved_105 : decode cX5_moved 105 = .ok (.lreturn, 1) := by decide +kernel

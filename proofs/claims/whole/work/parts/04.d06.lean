theorem dX5_shifts_0 : decode cX5_shifts 0 = .ok (.iload_n 1, 1) := by decide +kernel
theorem dX5_shifts_1 : decode cX5_shifts 1 = .ok (.bipush 11, 2) := by decide +kernel
theorem dX5_shifts_3 : decode cX5_shifts 3 = .ok (.ishr, 1) := by decide +kernel
theorem dX5_shifts_4 : decode cX5_shifts 4 = .ok (.iconst 3, 1) := by decide +kernel
theorem dX5_shifts_5 : decode cX5_shifts 5 = .ok (.iand, 1) := by decide +kernel
theorem dX5_shifts_6 : decode cX5_shifts 6 = .ok (.istore_n 2, 1) := by decide +kernel
theorem dX5_shifts_7 : decode cX5_shifts 7 = .ok (.iload_n 1, 1) := by decide +kernel
theorem dX5_shifts_8 : decode cX5_shifts 8 = .ok (.bipush 9, 2) := by decide +kernel
theorem dX5_shifts_10 : decode cX5_shifts 10 = .ok (.ishr, 1) := by decide +kernel
theorem dX5_shifts_11 : decode cX5_shifts 11 = .ok (.iconst 3, 1) := by decide +kernel
theorem dX5_shifts_12 : decode cX5_shifts 12 = .ok (.iand, 1) := by decide +kernel
theorem dX5_shifts_13 : decode cX5_shifts 13 = .ok (.istore_n 3, 1) := by decide +kernel
theorem dX5_shifts_14 : decode cX5_shifts 14 = .ok (.iload_n 1, 1) := by decide +kernel
theorem dX5_shifts_15 : decode cX5_shifts 15 = .ok (.sipush 511, 3) := by decide +kernel
theorem dX5_shifts_18 : decode cX5_shifts 18 = .ok (.iand, 1) := by decide +kernel
theorem dX5_shifts_19 : decode cX5_shifts 19 = .ok (.invokestatic 112, 3) := by decide +kernel
theorem dX5_shifts_22 : decode cX5_shifts 22 = .ok (.istore 4, 2) := by decide +kernel
theorem dX5_shifts_24 : decode cX5_shifts 24 = .ok (.iload 4, 2) := by decide +kernel
theorem dX5_shifts_26 : decode cX5_shifts 26 = .ok (.ifCond .le 100, 3) := by decide +kernel
theorem dX5_shifts_29 : decode cX5_shifts 29 = .ok (.iload_n 3, 1) := by decide +kernel
theorem dX5_shifts_30 : decode cX5_shifts 30 = .ok (.iconst 1, 1) := by decide +kernel
theorem dX5_shifts_31 : decode cX5_shifts 31 = .ok (.if_icmp .ne 22, 3) := by decide +kernel
theorem dX5_shifts_34 : decode cX5_shifts 34 = .ok (.aload_n 0, 1) := by decide +kernel
theorem dX5_shifts_35 : decode cX5_shifts 35 = .ok (.aload_n 0, 1) := by decide +kernel
theorem dX5_shifts_36 : decode cX5_shifts 36 = .ok (.getfield 33, 3) := by decide +kernel
theorem dX5_shifts_39 : decode cX5_shifts 39 = .ok (.i2l, 1) := by decide +kernel
theorem dX5_shifts_40 : decode cX5_shifts 40 = .ok (.bipush 18, 2) := by decide +kernel
theorem dX5_shifts_42 : decode cX5_shifts 42 = .ok (.iload_n 2, 1) := by decide +kernel
theorem dX5_shifts_43 : decode cX5_shifts 43 = .ok (.invokestatic 115, 3) := by decide +kernel
theorem dX5_shifts_46 : decode cX5_shifts 46 = .ok (.l2i, 1) := by decide +kernel
theorem dX5_shifts_47 : decode cX5_shifts 47 = .ok (.putfield 33, 3) := by decide +kernel
theorem dX5_shifts_50 : decode cX5_shifts 50 = .ok (.goto 70, 3) := by decide +kernel
theorem dX5_shifts_53 : decode cX5_shifts 53 = .ok (.iload_n 3, 1) := by decide +kernel
theorem dX5_shifts_54 : decode cX5_shifts 54 = .ok (.iconst 2, 1) := by decide +kernel
theorem dX5_shifts_55 : decode cX5_shifts 55 = .ok (.if_icmp .ne 22, 3) := by decide +kernel
theorem dX5_shifts_58 : decode cX5_shifts 58 = .ok (.aload_n 0, 1) := by decide +kernel
theorem dX5_shifts_59 : decode cX5_shifts 59 = .ok (.aload_n 0, 1) := by decide +kernel
theorem dX5_shifts_60 : decode cX5_shifts 60 = .ok (.getfield 37, 3) := by decide +kernel
theorem dX5_shifts_63 : decode cX5_shifts 63 = .ok (.i2l, 1) := by decide +kernel
theorem dX5_shifts_64 : decode cX5_shifts 64 = .ok (.bipush 18, 2) := by decide +kernel
theorem dX5_shifts_66 : decode cX5_shifts 66 = .ok (.iload_n 2, 1) := by decide +kernel
theorem dX5_shifts_67 : decode cX5_shifts 67 = .ok (.invokestatic 115, 3) := by decide +kernel
theorem dX5_shifts_70 : decode cX5_shifts 70 = .ok (.l2i, 1) := by decide +kernel
theorem dX5_shifts_71 : decode cX5_shifts 71 = .ok (.putfield 37, 3) := by decide +kernel
theorem dX5_shifts_74 : decode cX5_shifts 74 = .ok (.goto 46, 3) := by decide +kernel
theorem dX5_shifts_77 : decode cX5_shifts 77 = .ok (.aload_n 0, 1) := by decide +kernel
theorem dX5_shifts_78 : decode cX5_shifts 78 = .ok (.getfield 33, 3) := by decide +kernel
theorem dX5_shifts_81 : decode cX5_shifts 81 = .ok (.i2l, 1) := by decide +kernel
theorem dX5_shifts_82 : decode cX5_shifts 82 = .ok (.bipush 18, 2) := by decide +kernel
theorem dX5_shifts_84 : decode cX5_shifts 84 = .ok (.lshl, 1) := by decide +kernel
theorem dX5_shifts_85 : decode cX5_shifts 85 = .ok (.aload_n 0, 1) := by decide +kernel
theorem dX5_shifts_86 : decode cX5_shifts 86 = .ok (.getfield 37, 3) := by decide +kernel
theorem dX5_shifts_89 : decode cX5_shifts 89 = .ok (.i2l, 1) := by decide +kernel
theorem dX5_shifts_90 : decode cX5_shifts 90 = .ok (.lor, 1) := by decide +kernel
theorem dX5_shifts_91 : decode cX5_shifts 91 = .ok (.bipush 36, 2) := by decide +kernel
theorem dX5_shifts_93 : decode cX5_shifts 93 = .ok (.iload_n 2, 1) := by decide +kernel
theorem dX5_shifts_94 : decode cX5_shifts 94 = .ok (.invokestatic 115, 3) := by decide +kernel
theorem dX5_shifts_97 : decode cX5_shifts 97 = .ok (.lstore 5, 2) := by decide +kernel
theorem dX5_shifts_99 : decode cX5_shifts 99 = .ok (.aload_n 0, 1) := by decide +kernel
theorem dX5_shifts_100 : decode cX5_shifts 100 = .ok (.lload 5, 2) := by decide +kernel
theorem dX5_shifts_102 : decode cX5_shifts 102 = .ok (.bipush 18, 2) := by decide +kernel
theorem dX5_shifts_104 : decode cX5_shifts 104 = .ok (.lshr, 1) := by decide +kernel
theorem dX5_shifts_105 : decode cX5_shifts 105 = .ok (.l2i, 1) := by decide +kernel
theorem dX5_shifts_106 : decode cX5_shifts 106 = .ok (.putfield 33, 3) := by decide +kernel
theorem dX5_shifts_109 : decode cX5_shifts 109 = .ok (.aload_n 0, 1) := by decide +kernel
theorem dX5_shifts_110 : decode cX5_shifts 110 = .ok (.lload 5, 2) := by decide +kernel
theorem dX5_shifts_112 : decode cX5_shifts 112 = .ok (.ldc2_w 119, 3) := by decide +kernel
theorem dX5_shifts_115 : decode cX5_shifts 115 = .ok (.land, 1) := by decide +kernel
theorem dX5_shifts_116 : decode cX5_shifts 116 = .ok (.l2i, 1) := by decide +kernel
theorem dX5_shifts_117 : decode cX5_shifts 117 = .ok (.putfield 37, 3) := by decide +kernel
theorem dX5_shifts_120 : decode cX5_shifts 120 = .ok (.iinc 4 (-1), 3) := by decide +kernel
theorem dX5_shifts_123 : decode cX5_shifts 123 = .ok (.goto (-99), 3) := by decide +kernel
theorem dX5_shifts_126 : decode cX5_shifts 126 = .ok (.return_, 1) := by decide +kernel
theorem dX5_transfers_0 : decode cX5_transfers 0 = .ok (.iload_n 1, 1) := by decide +kernel
theorem dX5_transfers_1 : decode cX5_transfers 1 = .ok (.bipush 63, 2) := by decide +kernel
theorem dX5_transfers_3 : decode cX5_transfers 3 = .ok (.iand, 1) := by decide +kernel
theorem dX5_transfers_4 : decode cX5_transfers 4 = .ok (.lookupswitch 252 #[(3, 121), (4, 172), (7, 60), (44, 228), (45, 236), (46, 244)], 60) := by decide +kernel
theorem dX5_transfers_64 : decode cX5_transfers 64 = .ok (.aload_n 0, 1) := by decide +kernel
theorem dX5_transfers_65 : decode cX5_transfers 65 = .ok (.getfield 19, 3) := by decide +kernel
theorem dX5_transfers_68 : decode cX5_transfers 68 = .ok (.aload_n 0, 1) := by decide +kernel
theorem dX5_transfers_69 : decode cX5_transfers 69 = .ok (.getfield 121, 3) := by decide +kernel
theorem dX5_transfers_72 : decode cX5_transfers 72 = .ok (.bipush 64, 2) := by decide +kernel
theorem dX5_transfers_74 : decode cX5_transfers 74 = .ok (.irem, 1) := by decide +kernel
theorem dX5_transfers_75 : decode cX5_transfers 75 = .ok (.aload_n 0, 1) := by decide +kernel
theorem dX5_transfers_76 : decode cX5_transfers 76 = .ok (.getfield 33, 3) := by decide +kernel
theorem dX5_transfers_79 : decode cX5_transfers 79 = .ok (.bipush 8, 2) := by decide +kernel
theorem dX5_transfers_81 : decode cX5_transfers 81 = .ok (.ishr, 1) := by decide +kernel
theorem dX5_transfers_82 : decode cX5_transfers 82 = .ok (.iastore, 1) := by decide +kernel
theorem dX5_transfers_83 : decode cX5_transfers 83 = .ok (.aload_n 0, 1) := by decide +kernel
theorem dX5_transfers_84 : decode cX5_transfers 84 = .ok (.getfield 22, 3) := by decide +kernel
theorem dX5_transfers_87 : decode cX5_transfers 87 = .ok (.aload_n 0, 1) := by decide +kernel
theorem dX5_transfers_88 : decode cX5_transfers 88 = .ok (.getfield 121, 3) := by decide +kernel
theorem dX5_transfers_91 : decode cX5_transfers 91 = .ok (.bipush 64, 2) := by decide +kernel
theorem dX5_transfers_93 : decode cX5_transfers 93 = .ok (.irem, 1) := by decide +kernel
theorem dX5_transfers_94 : decode cX5_transfers 94 = .ok (.aload_n 0, 1) := by decide +kernel
theorem dX5_transfers_95 : decode cX5_transfers 95 = .ok (.getfield 37, 3) := by decide +kernel
theorem dX5_transfers_98 : decode cX5_transfers 98 = .ok (.bipush 8, 2) := by decide +kernel
theorem dX5_transfers_100 : decode cX5_transfers 100 = .ok (.ishr, 1) := by decide +kernel
theorem dX5_transfers_101 : decode cX5_transfers 101 = .ok (.iastore, 1) := by decide +kernel
theorem dX5_transfers_102 : decode cX5_transfers 102 = .ok (.aload_n 0, 1) := by decide +kernel
theorem dX5_transfers_103 : decode cX5_transfers 103 = .ok (.dup, 1) := by decide +kernel
theorem dX5_transfers_104 : decode cX5_transfers 104 = .ok (.getfield 121, 3) := by decide +kernel
theorem dX5_transfers_107 : decode cX5_transfers 107 = .ok (.iconst 1, 1) := by decide +kernel
theorem dX5_transfers_108 : decode cX5_transfers 108 = .ok (.iadd, 1) := by decide +kernel
theorem dX5_transfers_109 : decode cX5_transfers 109 = .ok (.putfield 121, 3) := by decide +kernel
theorem dX5_transfers_112 : decode cX5_transfers 112 = .ok (.aload_n 0, 1) := by decide +kernel
theorem dX5_transfers_113 : decode cX5_transfers 113 = .ok (.getfield 25, 3) := by decide +kernel
theorem dX5_transfers_116 : decode cX5_transfers 116 = .ok (.iconst 3, 1) := by decide +kernel
theorem dX5_transfers_117 : decode cX5_transfers 117 = .ok (.dup2, 1) := by decide +kernel
theorem dX5_transfers_118 : decode cX5_transfers 118 = .ok (.iaload, 1) := by decide +kernel
theorem dX5_transfers_119 : decode cX5_transfers 119 = .ok (.iconst 1, 1) := by decide +kernel
theorem dX5_transfers_120 : decode cX5_transfers 120 = .ok (.iadd, 1) := by decide +kernel
theorem dX5_transfers_121 : decode cX5_transfers 121 = .ok (.iastore, 1) := by decide +kernel
theorem dX5_transfers_122 : decode cX5_transfers 122 = .ok (.goto 134, 3) := by decide +kernel
theorem dX5_transfers_125 : decode cX5_transfers 125 = .ok (.aload_n 0, 1) := by decide +kernel
theorem dX5_transfers_126 : decode cX5_transfers 126 = .ok (.getfield 124, 3) := by decide +kernel
theorem dX5_transfers_129 : decode cX5_transfers 129 = .ok (.bipush 64, 2) := by decide +kernel
theorem dX5_transfers_131 : decode cX5_transfers 131 = .ok (.if_icmp .ne 16, 3) := by decide +kernel
theorem dX5_transfers_134 : decode cX5_transfers 134 = .ok (.aload_n 0, 1) := by decide +kernel
theorem dX5_transfers_135 : decode cX5_transfers 135 = .ok (.dup, 1) := by decide +kernel
theorem dX5_transfers_136 : decode cX5_transfers 136 = .ok (.getfield 127, 3) := by decide +kernel
theorem dX5_transfers_139 : decode cX5_transfers 139 = .ok (.iconst 1, 1) := by decide +kernel
theorem dX5_transfers_140 : decode cX5_transfers 140 = .ok (.iadd, 1) := by decide +kernel
theorem dX5_transfers_141 : decode cX5_transfers 141 = .ok (.putfield 127, 3) := by decide +kernel
theorem dX5_transfers_144 : decode cX5_transfers 144 = .ok (.goto 112, 3) := by decide +kernel
theorem dX5_transfers_147 : decode cX5_transfers 147 = .ok (.aload_n 0, 1) := by decide +kernel
theorem dX5_transfers_148 : decode cX5_transfers 148 = .ok (.getfield 16, 3) := by decide +kernel
theorem dX5_transfers_151 : decode cX5_transfers 151 = .ok (.aload_n 0, 1) := by decide +kernel
theorem dX5_transfers_152 : decode cX5_transfers 152 = .ok (.getfield 124, 3) := by decide +kernel
theorem dX5_transfers_155 : decode cX5_transfers 155 = .ok (.aload_n 0, 1) := by decide +kernel
theorem dX5_transfers_156 : decode cX5_transfers 156 = .ok (.getfield 37, 3) := by decide +kernel
theorem dX5_transfers_159 : decode cX5_transfers 159 = .ok (.bipush 63, 2) := by decide +kernel
theorem dX5_transfers_161 : decode cX5_transfers 161 = .ok (.iand, 1) := by decide +kernel
theorem dX5_transfers_162 : decode cX5_transfers 162 = .ok (.iastore, 1) := by decide +kernel
theorem dX5_transfers_163 : decode cX5_transfers 163 = .ok (.aload_n 0, 1) := by decide +kernel
theorem dX5_transfers_164 : decode cX5_transfers 164 = .ok (.dup, 1) := by decide +kernel
theorem dX5_transfers_165 : decode cX5_transfers 165 = .ok (.getfield 124, 3) := by decide +kernel
theorem dX5_transfers_168 : decode cX5_transfers 168 = .ok (.iconst 1, 1) := by decide +kernel
theorem dX5_transfers_169 : decode cX5_transfers 169 = .ok (.iadd, 1) := by decide +kernel
theorem dX5_transfers_170 : decode cX5_transfers 170 = .ok (.putfield 124, 3) := by decide +kernel
theorem dX5_transfers_173 : decode cX5_transfers 173 = .ok (.goto 83, 3) := by decide +kernel
theorem dX5_transfers_176 : decode cX5_transfers 176 = .ok (.aload_n 0, 1) := by decide +kernel
theorem dX5_transfers_177 : decode cX5_transfers 177 = .ok (.aload_n 0, 1) := by decide +kernel
theorem dX5_transfers_178 : decode cX5_transfers 178 = .ok (.getfield 72, 3) := by decide +kernel
theorem dX5_transfers_181 : decode cX5_transfers 181 = .ok (.aload_n 0, 1) := by decide +kernel
theorem dX5_transfers_182 : decode cX5_transfers 182 = .ok (.getfield 69, 3) := by decide +kernel
theorem dX5_transfers_185 : decode cX5_transfers 185 = .ok (.if_icmp .ge 15, 3) := by decide +kernel
theorem dX5_transfers_188 : decode cX5_transfers 188 = .ok (.aload_n 0, 1) := by decide +kernel
theorem dX5_transfers_189 : decode cX5_transfers 189 = .ok (.getfield 13, 3) := by decide +kernel
theorem dX5_transfers_192 : decode cX5_transfers 192 = .ok (.aload_n 0, 1) := by decide +kernel
theorem dX5_transfers_193 : decode cX5_transfers 193 = .ok (.getfield 72, 3) := by decide +kernel
theorem dX5_transfers_196 : decode cX5_transfers 196 = .ok (.iaload, 1) := by decide +kernel
theorem dX5_transfers_197 : decode cX5_transfers 197 = .ok (.goto 4, 3) := by decide +kernel
theorem dX5_transfers_200 : decode cX5_transfers 200 = .ok (.iconst 0, 1) := by decide +kernel
theorem dX5_transfers_201 : decode cX5_transfers 201 = .ok (.putfield 37, 3) := by decide +kernel
theorem dX5_transfers_204 : decode cX5_transfers 204 = .ok (.aload_n 0, 1) := by decide +kernel
theorem dX5_transfers_205 : decode cX5_transfers 205 = .ok (.dup, 1) := by decide +kernel
theorem dX5_transfers_206 : decode cX5_transfers 206 = .ok (.getfield 72, 3) := by decide +kernel
theorem dX5_transfers_209 : decode cX5_transfers 209 = .ok (.aload_n 0, 1) := by decide +kernel
theorem dX5_transfers_210 : decode cX5_transfers 210 = .ok (.getfield 72, 3) := by decide +kernel
theorem dX5_transfers_213 : decode cX5_transfers 213 = .ok (.aload_n 0, 1) := by decide +kernel
theorem dX5_transfers_214 : decode cX5_transfers 214 = .ok (.getfield 69, 3) := by decide +kernel
theorem dX5_transfers_217 : decode cX5_transfers 217 = .ok (.if_icmp .ge 7, 3) := by decide +kernel
theorem dX5_transfers_220 : decode cX5_transfers 220 = .ok (.iconst 1, 1) := by decide +kernel
theorem dX5_transfers_221 : decode cX5_transfers 221 = .ok (.goto 4, 3) := by decide +kernel
theorem dX5_transfers_224 : decode cX5_transfers 224 = .ok (.iconst 0, 1) := by decide +kernel
theorem dX5_transfers_225 : decode cX5_transfers 225 = .ok (.iadd, 1) := by decide +kernel
theorem dX5_transfers_226 : decode cX5_transfers 226 = .ok (.putfield 72, 3) := by decide +kernel
theorem dX5_transfers_229 : decode cX5_transfers 229 = .ok (.goto 27, 3) := by decide +kernel
theorem dX5_transfers_232 : decode cX5_transfers 232 = .ok (.aload_n 0, 1) := by decide +kernel
theorem dX5_transfers_233 : decode cX5_transfers 233 = .ok (.iconst 0, 1) := by decide +kernel
theorem dX5_transfers_234 : decode cX5_transfers 234 = .ok (.putfield 49, 3) := by decide +kernel
theorem dX5_transfers_237 : decode cX5_transfers 237 = .ok (.goto 19, 3) := by decide +kernel
theorem dX5_transfers_240 : decode cX5_transfers 240 = .ok (.aload_n 0, 1) := by decide +kernel
theorem dX5_transfers_241 : decode cX5_transfers 241 = .ok (.iconst 1, 1) := by decide +kernel
theorem dX5_transfers_242 : decode cX5_transfers 242 = .ok (.putfield 49, 3) := by decide +kernel
theorem dX5_transfers_245 : decode cX5_transfers 245 = .ok (.goto 11, 3) := by decide +kernel
theorem dX5_transfers_248 : decode cX5_transfers 248 = .ok (.aload_n 0, 1) := by decide +kernel
theorem dX5_transfers_249 : decode cX5_transfers 249 = .ok (.iconst 0, 1) := by decide +kernel
theorem dX5_transfers_250 : decode cX5_transfers 250 = .ok (.putfield 53, 3) := by decide +kernel
theorem dX5_transfers_253 : decode cX5_transfers 253 = .ok (.goto 3, 3) := by decide +kernel
theorem dX5_transfers_256 : decode cX5_transfers 256 = .ok (.return_, 1) := by decide +kernel
theorem dX5_operates_0 : decode cX5_operates 0 = .ok (.aload_n 0, 1) := by decide +kernel
theorem dX5_operates_1 : decode cX5_operates 1 = .ok (.iload_n 1, 1) := by decide +kernel
theorem dX5_operates_2 : decode cX5_operates 2 = .ok (.sipush 128, 3) := by decide +kernel
theorem dX5_operates_5 : decode cX5_operates 5 = .ok (.iand, 1) := by decide +kernel
theorem dX5_operates_6 : decode cX5_operates 6 = .ok (.ifCond .le 7, 3) := by decide +kernel
theorem dX5_operates_9 : decode cX5_operates 9 = .ok (.iconst 0, 1) := by decide +kernel
theorem dX5_operates_10 : decode cX5_operates 10 = .ok (.goto 7, 3) := by decide +kernel
theorem dX5_operates_13 : decode cX5_operates 13 = .ok (.aload_n 0, 1) := by decide +kernel
theorem dX5_operates_14 : decode cX5_operates 14 = .ok (.getfield 33, 3) := by decide +kernel
theorem dX5_operates_17 : decode cX5_operates 17 = .ok (.putfield 33, 3) := by decide +kernel
theorem dX5_operates_20 : decode cX5_operates 20 = .ok (.aload_n 0, 1) := by decide +kernel
theorem dX5_operates_21 : decode cX5_operates 21 = .ok (.iload_n 1, 1) := by decide +kernel
theorem dX5_operates_22 : decode cX5_operates 22 = .ok (.sipush 2048, 3) := by decide +kernel
theorem dX5_operates_25 : decode cX5_operates 25 = .ok (.iand, 1) := by decide +kernel
theorem dX5_operates_26 : decode cX5_operates 26 = .ok (.ifCond .le 7, 3) := by decide +kernel
theorem dX5_operates_29 : decode cX5_operates 29 = .ok (.iconst 0, 1) := by decide +kernel
theorem dX5_operates_30 : decode cX5_operates 30 = .ok (.goto 7, 3) := by decide +kernel
theorem dX5_operates_33 : decode cX5_operates 33 = .ok (.aload_n 0, 1) := by decide +kernel
theorem dX5_operates_34 : decode cX5_operates 34 = .ok (.getfield 37, 3) := by decide +kernel
theorem dX5_operates_37 : decode cX5_operates 37 = .ok (.putfield 37, 3) := by decide +kernel
theorem dX5_operates_40 : decode cX5_operates 40 = .ok (.aload_n 0, 1) := by decide +kernel
theorem dX5_operates_41 : decode cX5_operates 41 = .ok (.iload_n 1, 1) := by decide +kernel
theorem dX5_operates_42 : decode cX5_operates 42 = .ok (.sipush 1024, 3) := by decide +kernel
theorem dX5_operates_45 : decode cX5_operates 45 = .ok (.iand, 1) := by decide +kernel
theorem dX5_operates_46 : decode cX5_operates 46 = .ok (.ifCond .le 15, 3) := by decide +kernel
theorem dX5_operates_49 : decode cX5_operates 49 = .ok (.aload_n 0, 1) := by decide +kernel
theorem dX5_operates_50 : decode cX5_operates 50 = .ok (.getfield 33, 3) := by decide +kernel
theorem dX5_operates_53 : decode cX5_operates 53 = .ok (.aload_n 0, 1) := by decide +kernel
theorem dX5_operates_54 : decode cX5_operates 54 = .ok (.getfield 66, 3) := by decide +kernel
theorem dX5_operates_57 : decode cX5_operates 57 = .ok (.ior, 1) := by decide +kernel
theorem dX5_operates_58 : decode cX5_operates 58 = .ok (.goto 7, 3) := by decide +kernel
theorem dX5_operates_61 : decode cX5_operates 61 = .ok (.aload_n 0, 1) := by decide +kernel
theorem dX5_operates_62 : decode cX5_operates 62 = .ok (.getfield 33, 3) := by decide +kernel
theorem dX5_operates_65 : decode cX5_operates 65 = .ok (.putfield 33, 3) := by decide +kernel
theorem dX5_operates_68 : decode cX5_operates 68 = .ok (.aload_n 0, 1) := by decide +kernel
theorem dX5_operates_69 : decode cX5_operates 69 = .ok (.iload_n 1, 1) := by decide +kernel
theorem dX5_operates_70 : decode cX5_operates 70 = .ok (.bipush 64, 2) := by decide +kernel
theorem dX5_operates_72 : decode cX5_operates 72 = .ok (.iand, 1) := by decide +kernel
theorem dX5_operates_73 : decode cX5_operates 73 = .ok (.ifCond .le 15, 3) := by decide +kernel
theorem dX5_operates_76 : decode cX5_operates 76 = .ok (.aload_n 0, 1) := by decide +kernel
theorem dX5_operates_77 : decode cX5_operates 77 = .ok (.getfield 33, 3) := by decide +kernel
theorem dX5_operates_80 : decode cX5_operates 80 = .ok (.aload_n 0, 1) := by decide +kernel
theorem dX5_operates_81 : decode cX5_operates 81 = .ok (.invokevirtual 106, 3) := by decide +kernel
theorem dX5_operates_84 : decode cX5_operates 84 = .ok (.ior, 1) := by decide +kernel
theorem dX5_operates_85 : decode cX5_operates 85 = .ok (.goto 7, 3) := by decide +kernel
theorem dX5_operates_88 : decode cX5_operates 88 = .ok (.aload_n 0, 1) := by decide +kernel
theorem dX5_operates_89 : decode cX5_operates 89 = .ok (.getfield 33, 3) := by decide +kernel
theorem dX5_operates_92 : decode cX5_operates 92 = .ok (.putfield 33, 3) := by decide +kernel
theorem dX5_operates_95 : decode cX5_operates 95 = .ok (.aload_n 0, 1) := by decide +kernel
theorem dX5_operates_96 : decode cX5_operates 96 = .ok (.iload_n 1, 1) := by decide +kernel
theorem dX5_operates_97 : decode cX5_operates 97 = .ok (.sipush 512, 3) := by decide +kernel
theorem dX5_operates_100 : decode cX5_operates 100 = .ok (.iand, 1) := by decide +kernel
theorem dX5_operates_101 : decode cX5_operates 101 = .ok (.ifCond .le 13, 3) := by decide +kernel
theorem dX5_operates_104 : decode cX5_operates 104 = .ok (.aload_n 0, 1) := by decide +kernel
theorem dX5_operates_105 : decode cX5_operates 105 = .ok (.getfield 33, 3) := by decide +kernel
theorem dX5_operates_108 : decode cX5_operates 108 = .ok (.invokestatic 85, 3) := by decide +kernel
theorem dX5_operates_111 : decode cX5_operates 111 = .ok (.goto 7, 3) := by decide +kernel
theorem dX5_operates_114 : decode cX5_operates 114 = .ok (.aload_n 0, 1) := by decide +kernel
theorem dX5_operates_115 : decode cX5_operates 115 = .ok (.getfield 33, 3) := by decide +kernel
theorem dX5_operates_118 : decode cX5_operates 118 = .ok (.putfield 33, 3) := by decide +kernel
theorem dX5_operates_121 : decode cX5_operates 121 = .ok (.iload_n 1, 1) := by decide +kernel
theorem dX5_operates_122 : decode cX5_operates 122 = .ok (.bipush 7, 2) := by decide +kernel
theorem dX5_operates_124 : decode cX5_operates 124 = .ok (.iand, 1) := by decide +kernel
theorem dX5_operates_125 : decode cX5_operates 125 = .ok (.istore_n 2, 1) := by decide +kernel
theorem dX5_operates_126 : decode cX5_operates 126 = .ok (.iload_n 2, 1) := by decide +kernel
theorem dX5_operates_127 : decode cX5_operates 127 = .ok (.ifCond .ne 7, 3) := by decide +kernel
theorem dX5_operates_130 : decode cX5_operates 130 = .ok (.iconst 0, 1) := by decide +kernel
theorem dX5_operates_131 : decode cX5_operates 131 = .ok (.goto 19, 3) := by decide +kernel
theorem dX5_operates_134 : decode cX5_operates 134 = .ok (.iload_n 2, 1) := by decide +kernel
theorem dX5_operates_135 : decode cX5_operates 135 = .ok (.bipush 7, 2) := by decide +kernel
theorem dX5_operates_137 : decode cX5_operates 137 = .ok (.if_icmp .ne 8, 3) := by decide +kernel
theorem dX5_operates_140 : decode cX5_operates 140 = .ok (.bipush 63, 2) := by decide +kernel
theorem dX5_operates_142 : decode cX5_operates 142 = .ok (.goto 8, 3) := by decide +kernel
theorem dX5_operates_145 : decode cX5_operates 145 = .ok (.iconst 1, 1) := by decide +kernel
theorem dX5_operates_146 : decode cX5_operates 146 = .ok (.iload_n 2, 1) := by decide +kernel
theorem dX5_operates_147 : decode cX5_operates 147 = .ok (.iconst 1, 1) := by decide +kernel
theorem dX5_operates_148 : decode cX5_operates 148 = .ok (.isub, 1) := by decide +kernel
theorem dX5_operates_149 : decode cX5_operates 149 = .ok (.ishl, 1) := by decide +kernel
theorem dX5_operates_150 : decode cX5_operates 150 = .ok (.istore_n 3, 1) := by decide +kernel
theorem dX5_operates_151 : decode cX5_operates 151 = .ok (.aload_n 0, 1) := by decide +kernel
theorem dX5_operates_152 : decode cX5_operates 152 = .ok (.iload_n 1, 1) := by decide +kernel
theorem dX5_operates_153 : decode cX5_operates 153 = .ok (.bipush 8, 2) := by decide +kernel
theorem dX5_operates_155 : decode cX5_operates 155 = .ok (.iand, 1) := by decide +kernel
theorem dX5_operates_156 : decode cX5_operates 156 = .ok (.ifCond .le 12, 3) := by decide +kernel
theorem dX5_operates_159 : decode cX5_operates 159 = .ok (.aload_n 0, 1) := by decide +kernel
theorem dX5_operates_160 : decode cX5_operates 160 = .ok (.getfield 46, 3) := by decide +kernel
theorem dX5_operates_163 : decode cX5_operates 163 = .ok (.iload_n 3, 1) := by decide +kernel
theorem dX5_operates_164 : decode cX5_operates 164 = .ok (.ior, 1) := by decide +kernel
theorem dX5_operates_165 : decode cX5_operates 165 = .ok (.goto 11, 3) := by decide +kernel
theorem dX5_operates_168 : decode cX5_operates 168 = .ok (.aload_n 0, 1) := by decide +kernel
theorem dX5_operates_169 : decode cX5_operates 169 = .ok (.getfield 46, 3) := by decide +kernel
theorem dX5_operates_172 : decode cX5_operates 172 = .ok (.iload_n 3, 1) := by decide +kernel
theorem dX5_operates_173 : decode cX5_operates 173 = .ok (.iconst (-1), 1) := by decide +kernel
theorem dX5_operates_174 : decode cX5_operates 174 = .ok (.ixor, 1) := by decide +kernel
theorem dX5_operates_175 : decode cX5_operates 175 = .ok (.iand, 1) := by decide +kernel
theorem dX5_operates_176 : decode cX5_operates 176 = .ok (.putfield 46, 3) := by decide +kernel
theorem dX5_operates_179 : decode cX5_operates 179 = .ok (.aload_n 0, 1) := by decide +kernel
theorem dX5_operates_180 : decode cX5_operates 180 = .ok (.iload_n 1, 1) := by decide +kernel
theorem dX5_operates_181 : decode cX5_operates 181 = .ok (.sipush 256, 3) := by decide +kernel
theorem dX5_operates_184 : decode cX5_operates 184 = .ok (.iand, 1) := by decide +kernel
theorem dX5_operates_185 : decode cX5_operates 185 = .ok (.ifCond .le 7, 3) := by decide +kernel
theorem dX5_operates_188 : decode cX5_operates 188 = .ok (.iconst 1, 1) := by decide +kernel
theorem dX5_operates_189 : decode cX5_operates 189 = .ok (.goto 7, 3) := by decide +kernel
theorem dX5_operates_192 : decode cX5_operates 192 = .ok (.aload_n 0, 1) := by decide +kernel
theorem dX5_operates_193 : decode cX5_operates 193 = .ok (.getfield 130, 3) := by decide +kernel
theorem dX5_operates_196 : decode cX5_operates 196 = .ok (.putfield 130, 3) := by decide +kernel
theorem dX5_operates_199 : decode cX5_operates 199 = .ok (.return_, 1) := by decide +kernel
theorem dX5_does_0 : decode cX5_does 0 = .ok (.iload_n 1, 1) := by decide +kernel
theorem dX5_does_1 : decode cX5_does 1 = .ok (.istore_n 2, 1) := by decide +kernel
theorem dX5_does_2 : decode cX5_does 2 = .ok (.iconst 0, 1) := by decide +kernel
theorem dX5_does_3 : decode cX5_does 3 = .ok (.istore_n 3, 1) := by decide +kernel
theorem dX5_does_4 : decode cX5_does 4 = .ok (.iload_n 2, 1) := by decide +kernel
theorem dX5_does_5 : decode cX5_does 5 = .ok (.bipush 13, 2) := by decide +kernel
theorem dX5_does_7 : decode cX5_does 7 = .ok (.ishr, 1) := by decide +kernel
theorem dX5_does_8 : decode cX5_does 8 = .ok (.iconst 4, 1) := by decide +kernel
theorem dX5_does_9 : decode cX5_does 9 = .ok (.if_icmp .ne 41, 3) := by decide +kernel
theorem dX5_does_12 : decode cX5_does 12 = .ok (.aload_n 0, 1) := by decide +kernel
theorem dX5_does_13 : decode cX5_does 13 = .ok (.iload_n 2, 1) := by decide +kernel
theorem dX5_does_14 : decode cX5_does 14 = .ok (.invokevirtual 133, 3) := by decide +kernel
theorem dX5_does_17 : decode cX5_does 17 = .ok (.istore 4, 2) := by decide +kernel
theorem dX5_does_19 : decode cX5_does 19 = .ok (.iload 4, 2) := by decide +kernel
theorem dX5_does_21 : decode cX5_does 21 = .ok (.ifCond .lt 9, 3) := by decide +kernel
theorem dX5_does_24 : decode cX5_does 24 = .ok (.iload_n 3, 1) := by decide +kernel
theorem dX5_does_25 : decode cX5_does 25 = .ok (.bipush 32, 2) := by decide +kernel
theorem dX5_does_27 : decode cX5_does 27 = .ok (.if_icmp .ne 9, 3) := by decide +kernel
theorem dX5_does_30 : decode cX5_does 30 = .ok (.aload_n 0, 1) := by decide +kernel
theorem dX5_does_31 : decode cX5_does 31 = .ok (.iconst 2, 1) := by decide +kernel
theorem dX5_does_32 : decode cX5_does 32 = .ok (.putfield 130, 3) := by decide +kernel
theorem dX5_does_35 : decode cX5_does 35 = .ok (.return_, 1) := by decide +kernel
theorem dX5_does_36 : decode cX5_does 36 = .ok (.iinc 3 1, 3) := by decide +kernel
theorem dX5_does_39 : decode cX5_does 39 = .ok (.aload_n 0, 1) := by decide +kernel
theorem dX5_does_40 : decode cX5_does 40 = .ok (.getfield 7, 3) := by decide +kernel
theorem dX5_does_43 : decode cX5_does 43 = .ok (.iload 4, 2) := by decide +kernel
theorem dX5_does_45 : decode cX5_does 45 = .ok (.iaload, 1) := by decide +kernel
theorem dX5_does_46 : decode cX5_does 46 = .ok (.istore_n 2, 1) := by decide +kernel
theorem dX5_does_47 : decode cX5_does 47 = .ok (.goto (-43), 3) := by decide +kernel
theorem dX5_does_50 : decode cX5_does 50 = .ok (.iload_n 2, 1) := by decide +kernel
theorem dX5_does_51 : decode cX5_does 51 = .ok (.bipush 13, 2) := by decide +kernel
theorem dX5_does_53 : decode cX5_does 53 = .ok (.ishr, 1) := by decide +kernel
theorem dX5_does_54 : decode cX5_does 54 = .ok (.istore 4, 2) := by decide +kernel
theorem dX5_does_56 : decode cX5_does 56 = .ok (.iload_n 2, 1) := by decide +kernel
theorem dX5_does_57 : decode cX5_does 57 = .ok (.invokestatic 136, 3) := by decide +kernel
theorem dX5_does_60 : decode cX5_does 60 = .ok (.ifCond .eq 9, 3) := by decide +kernel
theorem dX5_does_63 : decode cX5_does 63 = .ok (.aload_n 0, 1) := by decide +kernel
theorem dX5_does_64 : decode cX5_does 64 = .ok (.iconst 3, 1) := by decide +kernel
theorem dX5_does_65 : decode cX5_does 65 = .ok (.putfield 130, 3) := by decide +kernel
theorem dX5_does_68 : decode cX5_does 68 = .ok (.return_, 1) := by decide +kernel
theorem dX5_does_69 : decode cX5_does 69 = .ok (.iload 4, 2) := by decide +kernel
theorem dX5_does_71 : decode cX5_does 71 = .ok (.bipush 24, 2) := by decide +kernel
theorem dX5_does_73 : decode cX5_does 73 = .ok (.if_icmp .ne 54, 3) := by decide +kernel
theorem dX5_does_76 : decode cX5_does 76 = .ok (.aload_n 0, 1) := by decide +kernel
theorem dX5_does_77 : decode cX5_does 77 = .ok (.getfield 56, 3) := by decide +kernel
theorem dX5_does_80 : decode cX5_does 80 = .ok (.ifCond .eq 47, 3) := by decide +kernel
theorem dX5_does_83 : decode cX5_does 83 = .ok (.iload_n 2, 1) := by decide +kernel
theorem dX5_does_84 : decode cX5_does 84 = .ok (.sipush 8191, 3) := by decide +kernel
theorem dX5_does_87 : decode cX5_does 87 = .ok (.iand, 1) := by decide +kernel
theorem dX5_does_88 : decode cX5_does 88 = .ok (.sipush 4097, 3) := by decide +kernel
theorem dX5_does_91 : decode cX5_does 91 = .ok (.if_icmp .ne 36, 3) := by decide +kernel
theorem dX5_does_94 : decode cX5_does 94 = .ok (.aload_n 0, 1) := by decide +kernel
theorem dX5_does_95 : decode cX5_does 95 = .ok (.aload_n 0, 1) := by decide +kernel
theorem dX5_does_96 : decode cX5_does 96 = .ok (.getfield 7, 3) := by decide +kernel
theorem dX5_does_99 : decode cX5_does 99 = .ok (.iconst 1, 1) := by decide +kernel
theorem dX5_does_100 : decode cX5_does 100 = .ok (.iaload, 1) := by decide +kernel
theorem dX5_does_101 : decode cX5_does 101 = .ok (.sipush 4095, 3) := by decide +kernel
theorem dX5_does_104 : decode cX5_does 104 = .ok (.iand, 1) := by decide +kernel
theorem dX5_does_105 : decode cX5_does 105 = .ok (.putfield 40, 3) := by decide +kernel
theorem dX5_does_108 : decode cX5_does 108 = .ok (.aload_n 0, 1) := by decide +kernel
theorem dX5_does_109 : decode cX5_does 109 = .ok (.aload_n 0, 1) := by decide +kernel
theorem dX5_does_110 : decode cX5_does 110 = .ok (.getfield 7, 3) := by decide +kernel
theorem dX5_does_113 : decode cX5_does 113 = .ok (.iconst 1, 1) := by decide +kernel
theorem dX5_does_114 : decode cX5_does 114 = .ok (.iaload, 1) := by decide +kernel
theorem dX5_does_115 : decode cX5_does 115 = .ok (.invokestatic 79, 3) := by decide +kernel
theorem dX5_does_118 : decode cX5_does 118 = .ok (.putfield 43, 3) := by decide +kernel
theorem dX5_does_121 : decode cX5_does 121 = .ok (.aload_n 0, 1) := by decide +kernel
theorem dX5_does_122 : decode cX5_does 122 = .ok (.iconst 0, 1) := by decide +kernel
theorem dX5_does_123 : decode cX5_does 123 = .ok (.putfield 56, 3) := by decide +kernel
theorem dX5_does_126 : decode cX5_does 126 = .ok (.return_, 1) := by decide +kernel
theorem dX5_does_127 : decode cX5_does 127 = .ok (.iload 4, 2) := by decide +kernel
theorem dX5_does_129 : decode cX5_does 129 = .ok (.invokestatic 140, 3) := by decide +kernel
theorem dX5_does_132 : decode cX5_does 132 = .ok (.ifCond .eq 32, 3) := by decide +kernel
theorem dX5_does_135 : decode cX5_does 135 = .ok (.aload_n 0, 1) := by decide +kernel
theorem dX5_does_136 : decode cX5_does 136 = .ok (.iload_n 2, 1) := by decide +kernel
theorem dX5_does_137 : decode cX5_does 137 = .ok (.invokevirtual 133, 3) := by decide +kernel
theorem dX5_does_140 : decode cX5_does 140 = .ok (.istore 5, 2) := by decide +kernel
theorem dX5_does_142 : decode cX5_does 142 = .ok (.iload 5, 2) := by decide +kernel
theorem dX5_does_144 : decode cX5_does 144 = .ok (.ifCond .ge 11, 3) := by decide +kernel
theorem dX5_does_147 : decode cX5_does 147 = .ok (.aload_n 0, 1) := by decide +kernel
theorem dX5_does_148 : decode cX5_does 148 = .ok (.iconst 2, 1) := by decide +kernel
theorem dX5_does_149 : decode cX5_does 149 = .ok (.putfield 130, 3) := by decide +kernel
theorem dX5_does_152 : decode cX5_does 152 = .ok (.goto 11, 3) := by decide +kernel
theorem dX5_does_155 : decode cX5_does 155 = .ok (.aload_n 0, 1) := by decide +kernel
theorem dX5_does_156 : decode cX5_does 156 = .ok (.iload 4, 2) := by decide +kernel
theorem dX5_does_158 : decode cX5_does 158 = .ok (.iload 5, 2) := by decide +kernel
theorem dX5_does_160 : decode cX5_does 160 = .ok (.invokevirtual 143, 3) := by decide +kernel
theorem dX5_does_163 : decode cX5_does 163 = .ok (.return_, 1) := by decide +kernel
theorem dX5_does_164 : decode cX5_does 164 = .ok (.iload 4, 2) := by decide +kernel
theorem dX5_does_166 : decode cX5_does 166 = .ok (.lookupswitch 133 #[(7, 50), (26, 76), (27, 84), (28, 92), (29, 125)], 50) := by decide +kernel
theorem dX5_does_216 : decode cX5_does 216 = .ok (.aload_n 0, 1) := by decide +kernel
theorem dX5_does_217 : decode cX5_does 217 = .ok (.iload_n 2, 1) := by decide +kernel
theorem dX5_does_218 : decode cX5_does 218 = .ok (.bipush 12, 2) := by decide +kernel
theorem dX5_does_220 : decode cX5_does 220 = .ok (.ishr, 1) := by decide +kernel
theorem dX5_does_221 : decode cX5_does 221 = .ok (.iconst 1, 1) := by decide +kernel
theorem dX5_does_222 : decode cX5_does 222 = .ok (.iand, 1) := by decide +kernel
theorem dX5_does_223 : decode cX5_does 223 = .ok (.ifCond .ne 8, 3) := by decide +kernel
theorem dX5_does_226 : decode cX5_does 226 = .ok (.bipush 64, 2) := by decide +kernel
theorem dX5_does_228 : decode cX5_does 228 = .ok (.goto 8, 3) := by decide +kernel
theorem dX5_does_231 : decode cX5_does 231 = .ok (.iload_n 2, 1) := by decide +kernel
theorem dX5_does_232 : decode cX5_does 232 = .ok (.sipush 4095, 3) := by decide +kernel
theorem dX5_does_235 : decode cX5_does 235 = .ok (.iand, 1) := by decide +kernel
theorem dX5_does_236 : decode cX5_does 236 = .ok (.invokevirtual 146, 3) := by decide +kernel
theorem dX5_does_239 : decode cX5_does 239 = .ok (.goto 65, 3) := by decide +kernel
theorem dX5_does_242 : decode cX5_does 242 = .ok (.aload_n 0, 1) := by decide +kernel
theorem dX5_does_243 : decode cX5_does 243 = .ok (.iload_n 2, 1) := by decide +kernel
theorem dX5_does_244 : decode cX5_does 244 = .ok (.invokevirtual 149, 3) := by decide +kernel
theorem dX5_does_247 : decode cX5_does 247 = .ok (.goto 57, 3) := by decide +kernel
theorem dX5_does_250 : decode cX5_does 250 = .ok (.aload_n 0, 1) := by decide +kernel
theorem dX5_does_251 : decode cX5_does 251 = .ok (.iload_n 2, 1) := by decide +kernel
theorem dX5_does_252 : decode cX5_does 252 = .ok (.invokevirtual 152, 3) := by decide +kernel
theorem dX5_does_255 : decode cX5_does 255 = .ok (.goto 49, 3) := by decide +kernel
theorem dX5_does_258 : decode cX5_does 258 = .ok (.aload_n 0, 1) := by decide +kernel
theorem dX5_does_259 : decode cX5_does 259 = .ok (.iload_n 2, 1) := by decide +kernel
theorem dX5_does_260 : decode cX5_does 260 = .ok (.bipush 12, 2) := by decide +kernel
theorem dX5_does_262 : decode cX5_does 262 = .ok (.ishr, 1) := by decide +kernel
theorem dX5_does_263 : decode cX5_does 263 = .ok (.iconst 1, 1) := by decide +kernel
theorem dX5_does_264 : decode cX5_does 264 = .ok (.iand, 1) := by decide +kernel
theorem dX5_does_265 : decode cX5_does 265 = .ok (.iconst 1, 1) := by decide +kernel
theorem dX5_does_266 : decode cX5_does 266 = .ok (.if_icmp .ne 14, 3) := by decide +kernel
theorem dX5_does_269 : decode cX5_does 269 = .ok (.iload_n 2, 1) := by decide +kernel
theorem dX5_does_270 : decode cX5_does 270 = .ok (.sipush 4095, 3) := by decide +kernel
theorem dX5_does_273 : decode cX5_does 273 = .ok (.iand, 1) := by decide +kernel
theorem dX5_does_274 : decode cX5_does 274 = .ok (.invokestatic 85, 3) := by decide +kernel
theorem dX5_does_277 : decode cX5_does 277 = .ok (.goto 8, 3) := by decide +kernel
theorem dX5_does_280 : decode cX5_does 280 = .ok (.iload_n 2, 1) := by decide +kernel
theorem dX5_does_281 : decode cX5_does 281 = .ok (.sipush 4095, 3) := by decide +kernel
theorem dX5_does_284 : decode cX5_does 284 = .ok (.iand, 1) := by decide +kernel
theorem dX5_does_285 : decode cX5_does 285 = .ok (.putfield 33, 3) := by decide +kernel
theorem dX5_does_288 : decode cX5_does 288 = .ok (.goto 16, 3) := by decide +kernel
theorem dX5_does_291 : decode cX5_does 291 = .ok (.aload_n 0, 1) := by decide +kernel
theorem dX5_does_292 : decode cX5_does 292 = .ok (.iload_n 2, 1) := by decide +kernel
theorem dX5_does_293 : decode cX5_does 293 = .ok (.invokevirtual 155, 3) := by decide +kernel
theorem dX5_does_296 : decode cX5_does 296 = .ok (.goto 8, 3) := by decide +kernel
theorem dX5_does_299 : decode cX5_does 299 = .ok (.aload_n 0, 1) := by decide +kernel
theorem dX5_does_300 : decode cX5_does 300 = .ok (.iload_n 2, 1) := by decide +kernel
theorem dX5_does_301 : decode cX5_does 301 = .ok (.invokevirtual 158, 3) := by decide +kernel
theorem dX5_does_304 : decode cX5_does 304 = .ok (.return_, 1) := by decide +kernel
theorem dX5_step_0 : decode cX5_step 0 = .ok (.aload_n 0, 1) := by decide +kernel
theorem dX5_step_1 : decode cX5_step 1 = .ok (.getfield 25, 3) := by decide +kernel
theorem dX5_step_4 : decode cX5_step 4 = .ok (.iconst 0, 1) := by decide +kernel
theorem dX5_step_5 : decode cX5_step 5 = .ok (.dup2, 1) := by decide +kernel
theorem dX5_step_6 : decode cX5_step 6 = .ok (.iaload, 1) := by decide +kernel
theorem dX5_step_7 : decode cX5_step 7 = .ok (.iconst 1, 1) := by decide +kernel
theorem dX5_step_8 : decode cX5_step 8 = .ok (.iadd, 1) := by decide +kernel
theorem dX5_step_9 : decode cX5_step 9 = .ok (.iastore, 1) := by decide +kernel
theorem dX5_step_10 : decode cX5_step 10 = .ok (.aload_n 0, 1) := by decide +kernel
theorem dX5_step_11 : decode cX5_step 11 = .ok (.getfield 25, 3) := by decide +kernel
theorem dX5_step_14 : decode cX5_step 14 = .ok (.bipush 7, 2) := by decide +kernel
theorem dX5_step_16 : decode cX5_step 16 = .ok (.dup2, 1) := by decide +kernel
theorem dX5_step_17 : decode cX5_step 17 = .ok (.iaload, 1) := by decide +kernel
theorem dX5_step_18 : decode cX5_step 18 = .ok (.iconst 1, 1) := by decide +kernel
theorem dX5_step_19 : decode cX5_step 19 = .ok (.iadd, 1) := by decide +kernel
theorem dX5_step_20 : decode cX5_step 20 = .ok (.iastore, 1) := by decide +kernel
theorem dX5_step_21 : decode cX5_step 21 = .ok (.aload_n 0, 1) := by decide +kernel
theorem dX5_step_22 : decode cX5_step 22 = .ok (.getfield 53, 3) := by decide +kernel
theorem dX5_step_25 : decode cX5_step 25 = .ok (.ifCond .eq 73, 3) := by decide +kernel
theorem dX5_step_28 : decode cX5_step 28 = .ok (.aload_n 0, 1) := by decide +kernel
theorem dX5_step_29 : decode cX5_step 29 = .ok (.getfield 49, 3) := by decide +kernel
theorem dX5_step_32 : decode cX5_step 32 = .ok (.ifCond .eq 66, 3) := by decide +kernel
theorem dX5_step_35 : decode cX5_step 35 = .ok (.aload_n 0, 1) := by decide +kernel
theorem dX5_step_36 : decode cX5_step 36 = .ok (.getfield 56, 3) := by decide +kernel
theorem dX5_step_39 : decode cX5_step 39 = .ok (.ifCond .ne 59, 3) := by decide +kernel
theorem dX5_step_42 : decode cX5_step 42 = .ok (.aload_n 0, 1) := by decide +kernel
theorem dX5_step_43 : decode cX5_step 43 = .ok (.getfield 7, 3) := by decide +kernel
theorem dX5_step_46 : decode cX5_step 46 = .ok (.iconst 0, 1) := by decide +kernel
theorem dX5_step_47 : decode cX5_step 47 = .ok (.aload_n 0, 1) := by decide +kernel
theorem dX5_step_48 : decode cX5_step 48 = .ok (.getfield 33, 3) := by decide +kernel
theorem dX5_step_51 : decode cX5_step 51 = .ok (.iastore, 1) := by decide +kernel
theorem dX5_step_52 : decode cX5_step 52 = .ok (.aload_n 0, 1) := by decide +kernel
theorem dX5_step_53 : decode cX5_step 53 = .ok (.getfield 7, 3) := by decide +kernel
theorem dX5_step_56 : decode cX5_step 56 = .ok (.iconst 1, 1) := by decide +kernel
theorem dX5_step_57 : decode cX5_step 57 = .ok (.aload_n 0, 1) := by decide +kernel
theorem dX5_step_58 : decode cX5_step 58 = .ok (.invokevirtual 106, 3) := by decide +kernel
theorem dX5_step_61 : decode cX5_step 61 = .ok (.iastore, 1) := by decide +kernel
theorem dX5_step_62 : decode cX5_step 62 = .ok (.aload_n 0, 1) := by decide +kernel
theorem dX5_step_63 : decode cX5_step 63 = .ok (.getfield 7, 3) := by decide +kernel
theorem dX5_step_66 : decode cX5_step 66 = .ok (.iconst 2, 1) := by decide +kernel
theorem dX5_step_67 : decode cX5_step 67 = .ok (.aload_n 0, 1) := by decide +kernel
theorem dX5_step_68 : decode cX5_step 68 = .ok (.getfield 37, 3) := by decide +kernel
theorem dX5_step_71 : decode cX5_step 71 = .ok (.iastore, 1) := by decide +kernel
theorem dX5_step_72 : decode cX5_step 72 = .ok (.aload_n 0, 1) := by decide +kernel
theorem dX5_step_73 : decode cX5_step 73 = .ok (.iconst 3, 1) := by decide +kernel
theorem dX5_step_74 : decode cX5_step 74 = .ok (.putfield 40, 3) := by decide +kernel
theorem dX5_step_77 : decode cX5_step 77 = .ok (.aload_n 0, 1) := by decide +kernel
theorem dX5_step_78 : decode cX5_step 78 = .ok (.iconst 1, 1) := by decide +kernel
theorem dX5_step_79 : decode cX5_step 79 = .ok (.putfield 56, 3) := by decide +kernel
theorem dX5_step_82 : decode cX5_step 82 = .ok (.aload_n 0, 1) := by decide +kernel
theorem dX5_step_83 : decode cX5_step 83 = .ok (.iconst 0, 1) := by decide +kernel
theorem dX5_step_84 : decode cX5_step 84 = .ok (.putfield 53, 3) := by decide +kernel
theorem dX5_step_87 : decode cX5_step 87 = .ok (.aload_n 0, 1) := by decide +kernel
theorem dX5_step_88 : decode cX5_step 88 = .ok (.getfield 25, 3) := by decide +kernel
theorem dX5_step_91 : decode cX5_step 91 = .ok (.iconst 1, 1) := by decide +kernel
theorem dX5_step_92 : decode cX5_step 92 = .ok (.dup2, 1) := by decide +kernel
theorem dX5_step_93 : decode cX5_step 93 = .ok (.iaload, 1) := by decide +kernel
theorem dX5_step_94 : decode cX5_step 94 = .ok (.iconst 1, 1) := by decide +kernel
theorem dX5_step_95 : decode cX5_step 95 = .ok (.iadd, 1) := by decide +kernel
theorem dX5_step_96 : decode cX5_step 96 = .ok (.iastore, 1) := by decide +kernel
theorem dX5_step_97 : decode cX5_step 97 = .ok (.return_, 1) := by decide +kernel
theorem dX5_step_98 : decode cX5_step 98 = .ok (.aload_n 0, 1) := by decide +kernel
theorem dX5_step_99 : decode cX5_step 99 = .ok (.getfield 40, 3) := by decide +kernel
theorem dX5_step_102 : decode cX5_step 102 = .ok (.istore_n 1, 1) := by decide +kernel
theorem dX5_step_103 : decode cX5_step 103 = .ok (.aload_n 0, 1) := by decide +kernel
theorem dX5_step_104 : decode cX5_step 104 = .ok (.aload_n 0, 1) := by decide +kernel
theorem dX5_step_105 : decode cX5_step 105 = .ok (.getfield 40, 3) := by decide +kernel
theorem dX5_step_108 : decode cX5_step 108 = .ok (.iconst 1, 1) := by decide +kernel
theorem dX5_step_109 : decode cX5_step 109 = .ok (.iadd, 1) := by decide +kernel
theorem dX5_step_110 : decode cX5_step 110 = .ok (.sipush 4095, 3) := by decide +kernel
theorem dX5_step_113 : decode cX5_step 113 = .ok (.iand, 1) := by decide +kernel
theorem dX5_step_114 : decode cX5_step 114 = .ok (.putfield 40, 3) := by decide +kernel
theorem dX5_step_117 : decode cX5_step 117 = .ok (.aload_n 0, 1) := by decide +kernel
theorem dX5_step_118 : decode cX5_step 118 = .ok (.aload_n 0, 1) := by decide +kernel
theorem dX5_step_119 : decode cX5_step 119 = .ok (.getfield 7, 3) := by decide +kernel
theorem dX5_step_122 : decode cX5_step 122 = .ok (.iload_n 1, 1) := by decide +kernel
theorem dX5_step_123 : decode cX5_step 123 = .ok (.iaload, 1) := by decide +kernel
theorem dX5_step_124 : decode cX5_step 124 = .ok (.invokevirtual 161, 3) := by decide +kernel
theorem dX5_step_127 : decode cX5_step 127 = .ok (.aload_n 0, 1) := by decide +kernel
theorem dX5_step_128 : decode cX5_step 128 = .ok (.getfield 25, 3) := by decide +kernel
theorem dX5_step_131 : decode cX5_step 131 = .ok (.bipush 6, 2) := by decide +kernel
theorem dX5_step_133 : decode cX5_step 133 = .ok (.aload_n 0, 1) := by decide +kernel
theorem dX5_step_134 : decode cX5_step 134 = .ok (.getfield 130, 3) := by decide +kernel
theorem dX5_step_137 : decode cX5_step 137 = .ok (.ifCond .ne 13, 3) := by decide +kernel
theorem dX5_step_140 : decode cX5_step 140 = .ok (.aload_n 0, 1) := by decide +kernel
theorem dX5_step_141 : decode cX5_step 141 = .ok (.getfield 25, 3) := by decide +kernel
theorem dX5_step_144 : decode cX5_step 144 = .ok (.bipush 6, 2) := by decide +kernel
theorem dX5_step_146 : decode cX5_step 146 = .ok (.iaload, 1) := by decide +kernel
theorem dX5_step_147 : decode cX5_step 147 = .ok (.goto 4, 3) := by decide +kernel
theorem dX5_step_150 : decode cX5_step 150 = .ok (.iload_n 1, 1) := by decide +kernel
theorem dX5_step_151 : decode cX5_step 151 = .ok (.iastore, 1) := by decide +kernel
theorem dX5_step_152 : decode cX5_step 152 = .ok (.return_, 1) := by decide +kernel

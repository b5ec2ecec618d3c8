theorem dX4_endBreak_0 : decode cX4_endBreak 0 = .ok (.aload_n 0, 1) := by decide +kernel
theorem dX4_endBreak_1 : decode cX4_endBreak 1 = .ok (.iconst 1, 1) := by decide +kernel
theorem dX4_endBreak_2 : decode cX4_endBreak 2 = .ok (.invokevirtual 48, 3) := by decide +kernel
theorem dX4_endBreak_5 : decode cX4_endBreak 5 = .ok (.istore_n 1, 1) := by decide +kernel
theorem dX4_endBreak_6 : decode cX4_endBreak 6 = .ok (.aload_n 0, 1) := by decide +kernel
theorem dX4_endBreak_7 : decode cX4_endBreak 7 = .ok (.iload_n 1, 1) := by decide +kernel
theorem dX4_endBreak_8 : decode cX4_endBreak 8 = .ok (.invokestatic 169, 3) := by decide +kernel
theorem dX4_endBreak_11 : decode cX4_endBreak 11 = .ok (.putfield 65, 3) := by decide +kernel
theorem dX4_endBreak_14 : decode cX4_endBreak 14 = .ok (.aload_n 0, 1) := by decide +kernel
theorem dX4_endBreak_15 : decode cX4_endBreak 15 = .ok (.iload_n 1, 1) := by decide +kernel
theorem dX4_endBreak_16 : decode cX4_endBreak 16 = .ok (.invokestatic 157, 3) := by decide +kernel
theorem dX4_endBreak_19 : decode cX4_endBreak 19 = .ok (.putfield 68, 3) := by decide +kernel
theorem dX4_endBreak_22 : decode cX4_endBreak 22 = .ok (.aload_n 0, 1) := by decide +kernel
theorem dX4_endBreak_23 : decode cX4_endBreak 23 = .ok (.iconst 0, 1) := by decide +kernel
theorem dX4_endBreak_24 : decode cX4_endBreak 24 = .ok (.putfield 80, 3) := by decide +kernel
theorem dX4_endBreak_27 : decode cX4_endBreak 27 = .ok (.return_, 1) := by decide +kernel
theorem dX4_followXct_0 : decode cX4_followXct 0 = .ok (.iload_n 1, 1) := by decide +kernel
theorem dX4_followXct_1 : decode cX4_followXct 1 = .ok (.istore_n 2, 1) := by decide +kernel
theorem dX4_followXct_2 : decode cX4_followXct 2 = .ok (.iconst 0, 1) := by decide +kernel
theorem dX4_followXct_3 : decode cX4_followXct 3 = .ok (.istore_n 3, 1) := by decide +kernel
theorem dX4_followXct_4 : decode cX4_followXct 4 = .ok (.iload_n 3, 1) := by decide +kernel
theorem dX4_followXct_5 : decode cX4_followXct 5 = .ok (.bipush 32, 2) := by decide +kernel
theorem dX4_followXct_7 : decode cX4_followXct 7 = .ok (.if_icmp .gt 43, 3) := by decide +kernel
theorem dX4_followXct_10 : decode cX4_followXct 10 = .ok (.iload_n 2, 1) := by decide +kernel
theorem dX4_followXct_11 : decode cX4_followXct 11 = .ok (.invokestatic 163, 3) := by decide +kernel
theorem dX4_followXct_14 : decode cX4_followXct 14 = .ok (.iconst 4, 1) := by decide +kernel
theorem dX4_followXct_15 : decode cX4_followXct 15 = .ok (.if_icmp .eq 5, 3) := by decide +kernel
theorem dX4_followXct_18 : decode cX4_followXct 18 = .ok (.iload_n 2, 1) := by decide +kernel
theorem dX4_followXct_19 : decode cX4_followXct 19 = .ok (.ireturn, 1) := by decide +kernel
theorem dX4_followXct_20 : decode cX4_followXct 20 = .ok (.aload_n 0, 1) := by decide +kernel
theorem dX4_followXct_21 : decode cX4_followXct 21 = .ok (.iload_n 2, 1) := by decide +kernel
theorem dX4_followXct_22 : decode cX4_followXct 22 = .ok (.invokevirtual 203, 3) := by decide +kernel
theorem dX4_followXct_25 : decode cX4_followXct 25 = .ok (.istore 4, 2) := by decide +kernel
theorem dX4_followXct_27 : decode cX4_followXct 27 = .ok (.iload 4, 2) := by decide +kernel
theorem dX4_followXct_29 : decode cX4_followXct 29 = .ok (.bipush (-9), 2) := by decide +kernel
theorem dX4_followXct_31 : decode cX4_followXct 31 = .ok (.if_icmp .ne 6, 3) := by decide +kernel
theorem dX4_followXct_34 : decode cX4_followXct 34 = .ok (.bipush (-9), 2) := by decide +kernel
theorem dX4_followXct_36 : decode cX4_followXct 36 = .ok (.ireturn, 1) := by decide +kernel
theorem dX4_followXct_37 : decode cX4_followXct 37 = .ok (.aload_n 0, 1) := by decide +kernel
theorem dX4_followXct_38 : decode cX4_followXct 38 = .ok (.iload 4, 2) := by decide +kernel
theorem dX4_followXct_40 : decode cX4_followXct 40 = .ok (.invokevirtual 48, 3) := by decide +kernel
theorem dX4_followXct_43 : decode cX4_followXct 43 = .ok (.istore_n 2, 1) := by decide +kernel
theorem dX4_followXct_44 : decode cX4_followXct 44 = .ok (.iinc 3 1, 3) := by decide +kernel
theorem dX4_followXct_47 : decode cX4_followXct 47 = .ok (.goto (-43), 3) := by decide +kernel
theorem dX4_followXct_50 : decode cX4_followXct 50 = .ok (.bipush (-9), 2) := by decide +kernel
theorem dX4_followXct_52 : decode cX4_followXct 52 = .ok (.ireturn, 1) := by decide +kernel
theorem dX4_perform_0 : decode cX4_perform 0 = .ok (.iload_n 1, 1) := by decide +kernel
theorem dX4_perform_1 : decode cX4_perform 1 = .ok (.invokestatic 176, 3) := by decide +kernel
theorem dX4_perform_4 : decode cX4_perform 4 = .ok (.ifCond .eq 5, 3) := by decide +kernel
theorem dX4_perform_7 : decode cX4_perform 7 = .ok (.iconst 3, 1) := by decide +kernel
theorem dX4_perform_8 : decode cX4_perform 8 = .ok (.ireturn, 1) := by decide +kernel
theorem dX4_perform_9 : decode cX4_perform 9 = .ok (.aload_n 0, 1) := by decide +kernel
theorem dX4_perform_10 : decode cX4_perform 10 = .ok (.iload_n 1, 1) := by decide +kernel
theorem dX4_perform_11 : decode cX4_perform 11 = .ok (.invokevirtual 206, 3) := by decide +kernel
theorem dX4_perform_14 : decode cX4_perform 14 = .ok (.ifCond .eq 9, 3) := by decide +kernel
theorem dX4_perform_17 : decode cX4_perform 17 = .ok (.aload_n 0, 1) := by decide +kernel
theorem dX4_perform_18 : decode cX4_perform 18 = .ok (.invokevirtual 209, 3) := by decide +kernel
theorem dX4_perform_21 : decode cX4_perform 21 = .ok (.iconst 0, 1) := by decide +kernel
theorem dX4_perform_22 : decode cX4_perform 22 = .ok (.ireturn, 1) := by decide +kernel
theorem dX4_perform_23 : decode cX4_perform 23 = .ok (.iload_n 1, 1) := by decide +kernel
theorem dX4_perform_24 : decode cX4_perform 24 = .ok (.invokestatic 173, 3) := by decide +kernel
theorem dX4_perform_27 : decode cX4_perform 27 = .ok (.ifCond .ne 9, 3) := by decide +kernel
theorem dX4_perform_30 : decode cX4_perform 30 = .ok (.aload_n 0, 1) := by decide +kernel
theorem dX4_perform_31 : decode cX4_perform 31 = .ok (.iload_n 1, 1) := by decide +kernel
theorem dX4_perform_32 : decode cX4_perform 32 = .ok (.invokevirtual 212, 3) := by decide +kernel
theorem dX4_perform_35 : decode cX4_perform 35 = .ok (.ireturn, 1) := by decide +kernel
theorem dX4_perform_36 : decode cX4_perform 36 = .ok (.aload_n 0, 1) := by decide +kernel
theorem dX4_perform_37 : decode cX4_perform 37 = .ok (.iload_n 1, 1) := by decide +kernel
theorem dX4_perform_38 : decode cX4_perform 38 = .ok (.invokevirtual 203, 3) := by decide +kernel
theorem dX4_perform_41 : decode cX4_perform 41 = .ok (.istore_n 2, 1) := by decide +kernel
theorem dX4_perform_42 : decode cX4_perform 42 = .ok (.iload_n 2, 1) := by decide +kernel
theorem dX4_perform_43 : decode cX4_perform 43 = .ok (.bipush (-9), 2) := by decide +kernel
theorem dX4_perform_45 : decode cX4_perform 45 = .ok (.if_icmp .ne 5, 3) := by decide +kernel
theorem dX4_perform_48 : decode cX4_perform 48 = .ok (.iconst 2, 1) := by decide +kernel
theorem dX4_perform_49 : decode cX4_perform 49 = .ok (.ireturn, 1) := by decide +kernel
theorem dX4_perform_50 : decode cX4_perform 50 = .ok (.aload_n 0, 1) := by decide +kernel
theorem dX4_perform_51 : decode cX4_perform 51 = .ok (.iload_n 1, 1) := by decide +kernel
theorem dX4_perform_52 : decode cX4_perform 52 = .ok (.invokestatic 163, 3) := by decide +kernel
theorem dX4_perform_55 : decode cX4_perform 55 = .ok (.iload_n 2, 1) := by decide +kernel
theorem dX4_perform_56 : decode cX4_perform 56 = .ok (.invokevirtual 215, 3) := by decide +kernel
theorem dX4_perform_59 : decode cX4_perform 59 = .ok (.iconst 0, 1) := by decide +kernel
theorem dX4_perform_60 : decode cX4_perform 60 = .ok (.ireturn, 1) := by decide +kernel
theorem dX4_endsBreak_0 : decode cX4_endsBreak 0 = .ok (.aload_n 0, 1) := by decide +kernel
theorem dX4_endsBreak_1 : decode cX4_endsBreak 1 = .ok (.getfield 80, 3) := by decide +kernel
theorem dX4_endsBreak_4 : decode cX4_endsBreak 4 = .ok (.iconst 1, 1) := by decide +kernel
theorem dX4_endsBreak_5 : decode cX4_endsBreak 5 = .ok (.if_icmp .ne 31, 3) := by decide +kernel
theorem dX4_endsBreak_8 : decode cX4_endsBreak 8 = .ok (.iload_n 1, 1) := by decide +kernel
theorem dX4_endsBreak_9 : decode cX4_endsBreak 9 = .ok (.invokestatic 163, 3) := by decide +kernel
theorem dX4_endsBreak_12 : decode cX4_endsBreak 12 = .ok (.bipush 24, 2) := by decide +kernel
theorem dX4_endsBreak_14 : decode cX4_endsBreak 14 = .ok (.if_icmp .ne 22, 3) := by decide +kernel
theorem dX4_endsBreak_17 : decode cX4_endsBreak 17 = .ok (.iload_n 1, 1) := by decide +kernel
theorem dX4_endsBreak_18 : decode cX4_endsBreak 18 = .ok (.invokestatic 166, 3) := by decide +kernel
theorem dX4_endsBreak_21 : decode cX4_endsBreak 21 = .ok (.ifCond .eq 15, 3) := by decide +kernel
theorem dX4_endsBreak_24 : decode cX4_endsBreak 24 = .ok (.iload_n 1, 1) := by decide +kernel
theorem dX4_endsBreak_25 : decode cX4_endsBreak 25 = .ok (.invokestatic 169, 3) := by decide +kernel
theorem dX4_endsBreak_28 : decode cX4_endsBreak 28 = .ok (.iconst 1, 1) := by decide +kernel
theorem dX4_endsBreak_29 : decode cX4_endsBreak 29 = .ok (.if_icmp .ne 7, 3) := by decide +kernel
theorem dX4_endsBreak_32 : decode cX4_endsBreak 32 = .ok (.iconst 1, 1) := by decide +kernel
theorem dX4_endsBreak_33 : decode cX4_endsBreak 33 = .ok (.goto 4, 3) := by decide +kernel
theorem dX4_endsBreak_36 : decode cX4_endsBreak 36 = .ok (.iconst 0, 1) := by decide +kernel
theorem dX4_endsBreak_37 : decode cX4_endsBreak 37 = .ok (.ireturn, 1) := by decide +kernel
theorem dX4_performWithoutAddress_0 : decode cX4_performWithoutAddress 0 = .ok (.iload_n 1, 1) := by decide +kernel
theorem dX4_performWithoutAddress_1 : decode cX4_performWithoutAddress 1 = .ok (.invokestatic 163, 3) := by decide +kernel
theorem dX4_performWithoutAddress_4 : decode cX4_performWithoutAddress 4 = .ok (.lookupswitch 168 #[(7, 60), (26, 82), (27, 108), (28, 122), (29, 149), (31, 159)], 60) := by decide +kernel
theorem dX4_performWithoutAddress_64 : decode cX4_performWithoutAddress 64 = .ok (.aload_n 0, 1) := by decide +kernel
theorem dX4_performWithoutAddress_65 : decode cX4_performWithoutAddress 65 = .ok (.iload_n 1, 1) := by decide +kernel
theorem dX4_performWithoutAddress_66 : decode cX4_performWithoutAddress 66 = .ok (.invokestatic 166, 3) := by decide +kernel
theorem dX4_performWithoutAddress_69 : decode cX4_performWithoutAddress 69 = .ok (.ifCond .eq 10, 3) := by decide +kernel
theorem dX4_performWithoutAddress_72 : decode cX4_performWithoutAddress 72 = .ok (.iload_n 1, 1) := by decide +kernel
theorem dX4_performWithoutAddress_73 : decode cX4_performWithoutAddress 73 = .ok (.invokestatic 169, 3) := by decide +kernel
theorem dX4_performWithoutAddress_76 : decode cX4_performWithoutAddress 76 = .ok (.goto 5, 3) := by decide +kernel
theorem dX4_performWithoutAddress_79 : decode cX4_performWithoutAddress 79 = .ok (.bipush 64, 2) := by decide +kernel
theorem dX4_performWithoutAddress_81 : decode cX4_performWithoutAddress 81 = .ok (.invokevirtual 218, 3) := by decide +kernel
theorem dX4_performWithoutAddress_84 : decode cX4_performWithoutAddress 84 = .ok (.iconst 0, 1) := by decide +kernel
theorem dX4_performWithoutAddress_85 : decode cX4_performWithoutAddress 85 = .ok (.ireturn, 1) := by decide +kernel
theorem dX4_performWithoutAddress_86 : decode cX4_performWithoutAddress 86 = .ok (.aload_n 0, 1) := by decide +kernel
theorem dX4_performWithoutAddress_87 : decode cX4_performWithoutAddress 87 = .ok (.aload_n 0, 1) := by decide +kernel
theorem dX4_performWithoutAddress_88 : decode cX4_performWithoutAddress 88 = .ok (.iload_n 1, 1) := by decide +kernel
theorem dX4_performWithoutAddress_89 : decode cX4_performWithoutAddress 89 = .ok (.invokestatic 169, 3) := by decide +kernel
theorem dX4_performWithoutAddress_92 : decode cX4_performWithoutAddress 92 = .ok (.invokevirtual 222, 3) := by decide +kernel
theorem dX4_performWithoutAddress_95 : decode cX4_performWithoutAddress 95 = .ok (.iload_n 1, 1) := by decide +kernel
theorem dX4_performWithoutAddress_96 : decode cX4_performWithoutAddress 96 = .ok (.invokestatic 166, 3) := by decide +kernel
theorem dX4_performWithoutAddress_99 : decode cX4_performWithoutAddress 99 = .ok (.if_icmp .eq 7, 3) := by decide +kernel
theorem dX4_performWithoutAddress_102 : decode cX4_performWithoutAddress 102 = .ok (.iconst 1, 1) := by decide +kernel
theorem dX4_performWithoutAddress_103 : decode cX4_performWithoutAddress 103 = .ok (.goto 4, 3) := by decide +kernel
theorem dX4_performWithoutAddress_106 : decode cX4_performWithoutAddress 106 = .ok (.iconst 0, 1) := by decide +kernel
theorem dX4_performWithoutAddress_107 : decode cX4_performWithoutAddress 107 = .ok (.invokevirtual 225, 3) := by decide +kernel
theorem dX4_performWithoutAddress_110 : decode cX4_performWithoutAddress 110 = .ok (.iconst 0, 1) := by decide +kernel
theorem dX4_performWithoutAddress_111 : decode cX4_performWithoutAddress 111 = .ok (.ireturn, 1) := by decide +kernel
theorem dX4_performWithoutAddress_112 : decode cX4_performWithoutAddress 112 = .ok (.aload_n 0, 1) := by decide +kernel
theorem dX4_performWithoutAddress_113 : decode cX4_performWithoutAddress 113 = .ok (.iload_n 1, 1) := by decide +kernel
theorem dX4_performWithoutAddress_114 : decode cX4_performWithoutAddress 114 = .ok (.invokestatic 185, 3) := by decide +kernel
theorem dX4_performWithoutAddress_117 : decode cX4_performWithoutAddress 117 = .ok (.iload_n 1, 1) := by decide +kernel
theorem dX4_performWithoutAddress_118 : decode cX4_performWithoutAddress 118 = .ok (.invokestatic 170, 3) := by decide +kernel
theorem dX4_performWithoutAddress_121 : decode cX4_performWithoutAddress 121 = .ok (.invokevirtual 229, 3) := by decide +kernel
theorem dX4_performWithoutAddress_124 : decode cX4_performWithoutAddress 124 = .ok (.iconst 0, 1) := by decide +kernel
theorem dX4_performWithoutAddress_125 : decode cX4_performWithoutAddress 125 = .ok (.ireturn, 1) := by decide +kernel
theorem dX4_performWithoutAddress_126 : decode cX4_performWithoutAddress 126 = .ok (.aload_n 0, 1) := by decide +kernel
theorem dX4_performWithoutAddress_127 : decode cX4_performWithoutAddress 127 = .ok (.iload_n 1, 1) := by decide +kernel
theorem dX4_performWithoutAddress_128 : decode cX4_performWithoutAddress 128 = .ok (.invokestatic 166, 3) := by decide +kernel
theorem dX4_performWithoutAddress_131 : decode cX4_performWithoutAddress 131 = .ok (.ifCond .eq 13, 3) := by decide +kernel
theorem dX4_performWithoutAddress_134 : decode cX4_performWithoutAddress 134 = .ok (.iload_n 1, 1) := by decide +kernel
theorem dX4_performWithoutAddress_135 : decode cX4_performWithoutAddress 135 = .ok (.invokestatic 169, 3) := by decide +kernel
theorem dX4_performWithoutAddress_138 : decode cX4_performWithoutAddress 138 = .ok (.invokestatic 232, 3) := by decide +kernel
theorem dX4_performWithoutAddress_141 : decode cX4_performWithoutAddress 141 = .ok (.goto 7, 3) := by decide +kernel
theorem dX4_performWithoutAddress_144 : decode cX4_performWithoutAddress 144 = .ok (.iload_n 1, 1) := by decide +kernel
theorem dX4_performWithoutAddress_145 : decode cX4_performWithoutAddress 145 = .ok (.invokestatic 169, 3) := by decide +kernel
theorem dX4_performWithoutAddress_148 : decode cX4_performWithoutAddress 148 = .ok (.putfield 58, 3) := by decide +kernel
theorem dX4_performWithoutAddress_151 : decode cX4_performWithoutAddress 151 = .ok (.iconst 0, 1) := by decide +kernel
theorem dX4_performWithoutAddress_152 : decode cX4_performWithoutAddress 152 = .ok (.ireturn, 1) := by decide +kernel
theorem dX4_performWithoutAddress_153 : decode cX4_performWithoutAddress 153 = .ok (.aload_n 0, 1) := by decide +kernel
theorem dX4_performWithoutAddress_154 : decode cX4_performWithoutAddress 154 = .ok (.iload_n 1, 1) := by decide +kernel
theorem dX4_performWithoutAddress_155 : decode cX4_performWithoutAddress 155 = .ok (.bipush 63, 2) := by decide +kernel
theorem dX4_performWithoutAddress_157 : decode cX4_performWithoutAddress 157 = .ok (.iand, 1) := by decide +kernel
theorem dX4_performWithoutAddress_158 : decode cX4_performWithoutAddress 158 = .ok (.invokevirtual 235, 3) := by decide +kernel
theorem dX4_performWithoutAddress_161 : decode cX4_performWithoutAddress 161 = .ok (.iconst 0, 1) := by decide +kernel
theorem dX4_performWithoutAddress_162 : decode cX4_performWithoutAddress 162 = .ok (.ireturn, 1) := by decide +kernel
theorem dX4_performWithoutAddress_163 : decode cX4_performWithoutAddress 163 = .ok (.aload_n 0, 1) := by decide +kernel
theorem dX4_performWithoutAddress_164 : decode cX4_performWithoutAddress 164 = .ok (.iload_n 1, 1) := by decide +kernel
theorem dX4_performWithoutAddress_165 : decode cX4_performWithoutAddress 165 = .ok (.invokestatic 169, 3) := by decide +kernel
theorem dX4_performWithoutAddress_168 : decode cX4_performWithoutAddress 168 = .ok (.invokevirtual 238, 3) := by decide +kernel
theorem dX4_performWithoutAddress_171 : decode cX4_performWithoutAddress 171 = .ok (.ireturn, 1) := by decide +kernel
theorem dX4_performWithoutAddress_172 : decode cX4_performWithoutAddress 172 = .ok (.iconst 3, 1) := by decide +kernel
theorem dX4_performWithoutAddress_173 : decode cX4_performWithoutAddress 173 = .ok (.ireturn, 1) := by decide +kernel
theorem dX4_callAt_0 : decode cX4_callAt 0 = .ok (.aload_n 0, 1) := by decide +kernel
theorem dX4_callAt_1 : decode cX4_callAt 1 = .ok (.iload_n 1, 1) := by decide +kernel
theorem dX4_callAt_2 : decode cX4_callAt 2 = .ok (.aload_n 0, 1) := by decide +kernel
theorem dX4_callAt_3 : decode cX4_callAt 3 = .ok (.getfield 58, 3) := by decide +kernel
theorem dX4_callAt_6 : decode cX4_callAt 6 = .ok (.invokevirtual 52, 3) := by decide +kernel
theorem dX4_callAt_9 : decode cX4_callAt 9 = .ok (.aload_n 0, 1) := by decide +kernel
theorem dX4_callAt_10 : decode cX4_callAt 10 = .ok (.aload_n 0, 1) := by decide +kernel
theorem dX4_callAt_11 : decode cX4_callAt 11 = .ok (.invokevirtual 200, 3) := by decide +kernel
theorem dX4_callAt_14 : decode cX4_callAt 14 = .ok (.putfield 58, 3) := by decide +kernel
theorem dX4_callAt_17 : decode cX4_callAt 17 = .ok (.aload_n 0, 1) := by decide +kernel
theorem dX4_callAt_18 : decode cX4_callAt 18 = .ok (.iload_n 1, 1) := by decide +kernel
theorem dX4_callAt_19 : decode cX4_callAt 19 = .ok (.iconst 1, 1) := by decide +kernel
theorem dX4_callAt_20 : decode cX4_callAt 20 = .ok (.iadd, 1) := by decide +kernel
theorem dX4_callAt_21 : decode cX4_callAt 21 = .ok (.sipush 4095, 3) := by decide +kernel
theorem dX4_callAt_24 : decode cX4_callAt 24 = .ok (.iand, 1) := by decide +kernel
theorem dX4_callAt_25 : decode cX4_callAt 25 = .ok (.putfield 65, 3) := by decide +kernel
theorem dX4_callAt_28 : decode cX4_callAt 28 = .ok (.return_, 1) := by decide +kernel
theorem dX4_performAt_0 : decode cX4_performAt 0 = .ok (.aload_n 0, 1) := by decide +kernel
theorem dX4_performAt_1 : decode cX4_performAt 1 = .ok (.iload_n 2, 1) := by decide +kernel
theorem dX4_performAt_2 : decode cX4_performAt 2 = .ok (.invokevirtual 48, 3) := by decide +kernel
theorem dX4_performAt_5 : decode cX4_performAt 5 = .ok (.istore_n 3, 1) := by decide +kernel
theorem dX4_performAt_6 : decode cX4_performAt 6 = .ok (.iload_n 1, 1) := by decide +kernel
theorem dX4_performAt_7 : decode cX4_performAt 7 = .ok (.tableswitch 376 1 25 #[113, 126, 139, 376, 376, 376, 376, 152, 160, 168, 180, 202, 224, 236, 376, 245, 253, 261, 269, 296, 316, 336, 344, 352, 360], 113) := by decide +kernel
theorem dX4_performAt_120 : decode cX4_performAt 120 = .ok (.aload_n 0, 1) := by decide +kernel
theorem dX4_performAt_121 : decode cX4_performAt 121 = .ok (.aload_n 0, 1) := by decide +kernel
theorem dX4_performAt_122 : decode cX4_performAt 122 = .ok (.getfield 58, 3) := by decide +kernel
theorem dX4_performAt_125 : decode cX4_performAt 125 = .ok (.iload_n 3, 1) := by decide +kernel
theorem dX4_performAt_126 : decode cX4_performAt 126 = .ok (.iand, 1) := by decide +kernel
theorem dX4_performAt_127 : decode cX4_performAt 127 = .ok (.putfield 58, 3) := by decide +kernel
theorem dX4_performAt_130 : decode cX4_performAt 130 = .ok (.goto 253, 3) := by decide +kernel
theorem dX4_performAt_133 : decode cX4_performAt 133 = .ok (.aload_n 0, 1) := by decide +kernel
theorem dX4_performAt_134 : decode cX4_performAt 134 = .ok (.aload_n 0, 1) := by decide +kernel
theorem dX4_performAt_135 : decode cX4_performAt 135 = .ok (.getfield 58, 3) := by decide +kernel
theorem dX4_performAt_138 : decode cX4_performAt 138 = .ok (.iload_n 3, 1) := by decide +kernel
theorem dX4_performAt_139 : decode cX4_performAt 139 = .ok (.ior, 1) := by decide +kernel
theorem dX4_performAt_140 : decode cX4_performAt 140 = .ok (.putfield 58, 3) := by decide +kernel
theorem dX4_performAt_143 : decode cX4_performAt 143 = .ok (.goto 240, 3) := by decide +kernel
theorem dX4_performAt_146 : decode cX4_performAt 146 = .ok (.aload_n 0, 1) := by decide +kernel
theorem dX4_performAt_147 : decode cX4_performAt 147 = .ok (.aload_n 0, 1) := by decide +kernel
theorem dX4_performAt_148 : decode cX4_performAt 148 = .ok (.getfield 58, 3) := by decide +kernel
theorem dX4_performAt_151 : decode cX4_performAt 151 = .ok (.iload_n 3, 1) := by decide +kernel
theorem dX4_performAt_152 : decode cX4_performAt 152 = .ok (.ixor, 1) := by decide +kernel
theorem dX4_performAt_153 : decode cX4_performAt 153 = .ok (.putfield 58, 3) := by decide +kernel
theorem dX4_performAt_156 : decode cX4_performAt 156 = .ok (.goto 227, 3) := by decide +kernel
theorem dX4_performAt_159 : decode cX4_performAt 159 = .ok (.aload_n 0, 1) := by decide +kernel
theorem dX4_performAt_160 : decode cX4_performAt 160 = .ok (.iload_n 3, 1) := by decide +kernel
theorem dX4_performAt_161 : decode cX4_performAt 161 = .ok (.putfield 58, 3) := by decide +kernel
theorem dX4_performAt_164 : decode cX4_performAt 164 = .ok (.goto 219, 3) := by decide +kernel
theorem dX4_performAt_167 : decode cX4_performAt 167 = .ok (.aload_n 0, 1) := by decide +kernel
theorem dX4_performAt_168 : decode cX4_performAt 168 = .ok (.iload_n 3, 1) := by decide +kernel
theorem dX4_performAt_169 : decode cX4_performAt 169 = .ok (.putfield 62, 3) := by decide +kernel
theorem dX4_performAt_172 : decode cX4_performAt 172 = .ok (.goto 211, 3) := by decide +kernel
theorem dX4_performAt_175 : decode cX4_performAt 175 = .ok (.aload_n 0, 1) := by decide +kernel
theorem dX4_performAt_176 : decode cX4_performAt 176 = .ok (.iload_n 2, 1) := by decide +kernel
theorem dX4_performAt_177 : decode cX4_performAt 177 = .ok (.aload_n 0, 1) := by decide +kernel
theorem dX4_performAt_178 : decode cX4_performAt 178 = .ok (.getfield 58, 3) := by decide +kernel
theorem dX4_performAt_181 : decode cX4_performAt 181 = .ok (.invokevirtual 52, 3) := by decide +kernel
theorem dX4_performAt_184 : decode cX4_performAt 184 = .ok (.goto 199, 3) := by decide +kernel
theorem dX4_performAt_187 : decode cX4_performAt 187 = .ok (.aload_n 0, 1) := by decide +kernel
theorem dX4_performAt_188 : decode cX4_performAt 188 = .ok (.iload_n 2, 1) := by decide +kernel
theorem dX4_performAt_189 : decode cX4_performAt 189 = .ok (.iload_n 3, 1) := by decide +kernel
theorem dX4_performAt_190 : decode cX4_performAt 190 = .ok (.sipush (-4096), 3) := by decide +kernel
theorem dX4_performAt_193 : decode cX4_performAt 193 = .ok (.iand, 1) := by decide +kernel
theorem dX4_performAt_194 : decode cX4_performAt 194 = .ok (.aload_n 0, 1) := by decide +kernel
theorem dX4_performAt_195 : decode cX4_performAt 195 = .ok (.getfield 58, 3) := by decide +kernel
theorem dX4_performAt_198 : decode cX4_performAt 198 = .ok (.sipush 4095, 3) := by decide +kernel
theorem dX4_performAt_201 : decode cX4_performAt 201 = .ok (.iand, 1) := by decide +kernel
theorem dX4_performAt_202 : decode cX4_performAt 202 = .ok (.ior, 1) := by decide +kernel
theorem dX4_performAt_203 : decode cX4_performAt 203 = .ok (.invokevirtual 52, 3) := by decide +kernel
theorem dX4_performAt_206 : decode cX4_performAt 206 = .ok (.goto 177, 3) := by decide +kernel
theorem dX4_performAt_209 : decode cX4_performAt 209 = .ok (.aload_n 0, 1) := by decide +kernel
theorem dX4_performAt_210 : decode cX4_performAt 210 = .ok (.iload_n 2, 1) := by decide +kernel
theorem dX4_performAt_211 : decode cX4_performAt 211 = .ok (.iload_n 3, 1) := by decide +kernel
theorem dX4_performAt_212 : decode cX4_performAt 212 = .ok (.sipush 4095, 3) := by decide +kernel
theorem dX4_performAt_215 : decode cX4_performAt 215 = .ok (.iand, 1) := by decide +kernel
theorem dX4_performAt_216 : decode cX4_performAt 216 = .ok (.aload_n 0, 1) := by decide +kernel
theorem dX4_performAt_217 : decode cX4_performAt 217 = .ok (.getfield 58, 3) := by decide +kernel
theorem dX4_performAt_220 : decode cX4_performAt 220 = .ok (.sipush (-4096), 3) := by decide +kernel
theorem dX4_performAt_223 : decode cX4_performAt 223 = .ok (.iand, 1) := by decide +kernel
theorem dX4_performAt_224 : decode cX4_performAt 224 = .ok (.ior, 1) := by decide +kernel
theorem dX4_performAt_225 : decode cX4_performAt 225 = .ok (.invokevirtual 52, 3) := by decide +kernel
theorem dX4_performAt_228 : decode cX4_performAt 228 = .ok (.goto 155, 3) := by decide +kernel
theorem dX4_performAt_231 : decode cX4_performAt 231 = .ok (.aload_n 0, 1) := by decide +kernel
theorem dX4_performAt_232 : decode cX4_performAt 232 = .ok (.iload_n 2, 1) := by decide +kernel
theorem dX4_performAt_233 : decode cX4_performAt 233 = .ok (.aload_n 0, 1) := by decide +kernel
theorem dX4_performAt_234 : decode cX4_performAt 234 = .ok (.getfield 62, 3) := by decide +kernel
theorem dX4_performAt_237 : decode cX4_performAt 237 = .ok (.invokevirtual 52, 3) := by decide +kernel
theorem dX4_performAt_240 : decode cX4_performAt 240 = .ok (.goto 143, 3) := by decide +kernel
theorem dX4_performAt_243 : decode cX4_performAt 243 = .ok (.aload_n 0, 1) := by decide +kernel
theorem dX4_performAt_244 : decode cX4_performAt 244 = .ok (.iload_n 2, 1) := by decide +kernel
theorem dX4_performAt_245 : decode cX4_performAt 245 = .ok (.iconst 0, 1) := by decide +kernel
theorem dX4_performAt_246 : decode cX4_performAt 246 = .ok (.invokevirtual 52, 3) := by decide +kernel
theorem dX4_performAt_249 : decode cX4_performAt 249 = .ok (.goto 134, 3) := by decide +kernel
theorem dX4_performAt_252 : decode cX4_performAt 252 = .ok (.aload_n 0, 1) := by decide +kernel
theorem dX4_performAt_253 : decode cX4_performAt 253 = .ok (.iload_n 3, 1) := by decide +kernel
theorem dX4_performAt_254 : decode cX4_performAt 254 = .ok (.invokevirtual 241, 3) := by decide +kernel
theorem dX4_performAt_257 : decode cX4_performAt 257 = .ok (.goto 126, 3) := by decide +kernel
theorem dX4_performAt_260 : decode cX4_performAt 260 = .ok (.aload_n 0, 1) := by decide +kernel
theorem dX4_performAt_261 : decode cX4_performAt 261 = .ok (.iload_n 3, 1) := by decide +kernel
theorem dX4_performAt_262 : decode cX4_performAt 262 = .ok (.invokevirtual 244, 3) := by decide +kernel
theorem dX4_performAt_265 : decode cX4_performAt 265 = .ok (.goto 118, 3) := by decide +kernel
theorem dX4_performAt_268 : decode cX4_performAt 268 = .ok (.aload_n 0, 1) := by decide +kernel
theorem dX4_performAt_269 : decode cX4_performAt 269 = .ok (.iload_n 2, 1) := by decide +kernel
theorem dX4_performAt_270 : decode cX4_performAt 270 = .ok (.invokevirtual 247, 3) := by decide +kernel
theorem dX4_performAt_273 : decode cX4_performAt 273 = .ok (.goto 110, 3) := by decide +kernel
theorem dX4_performAt_276 : decode cX4_performAt 276 = .ok (.aload_n 0, 1) := by decide +kernel
theorem dX4_performAt_277 : decode cX4_performAt 277 = .ok (.iload_n 2, 1) := by decide +kernel
theorem dX4_performAt_278 : decode cX4_performAt 278 = .ok (.invokevirtual 247, 3) := by decide +kernel
theorem dX4_performAt_281 : decode cX4_performAt 281 = .ok (.aload_n 0, 1) := by decide +kernel
theorem dX4_performAt_282 : decode cX4_performAt 282 = .ok (.aload_n 0, 1) := by decide +kernel
theorem dX4_performAt_283 : decode cX4_performAt 283 = .ok (.getfield 58, 3) := by decide +kernel
theorem dX4_performAt_286 : decode cX4_performAt 286 = .ok (.invokestatic 157, 3) := by decide +kernel
theorem dX4_performAt_289 : decode cX4_performAt 289 = .ok (.ifCond .ne 7, 3) := by decide +kernel
theorem dX4_performAt_292 : decode cX4_performAt 292 = .ok (.iconst 1, 1) := by decide +kernel
theorem dX4_performAt_293 : decode cX4_performAt 293 = .ok (.goto 4, 3) := by decide +kernel
theorem dX4_performAt_296 : decode cX4_performAt 296 = .ok (.iconst 0, 1) := by decide +kernel
theorem dX4_performAt_297 : decode cX4_performAt 297 = .ok (.invokevirtual 225, 3) := by decide +kernel
theorem dX4_performAt_300 : decode cX4_performAt 300 = .ok (.goto 83, 3) := by decide +kernel
theorem dX4_performAt_303 : decode cX4_performAt 303 = .ok (.aload_n 0, 1) := by decide +kernel
theorem dX4_performAt_304 : decode cX4_performAt 304 = .ok (.aload_n 0, 1) := by decide +kernel
theorem dX4_performAt_305 : decode cX4_performAt 305 = .ok (.getfield 58, 3) := by decide +kernel
theorem dX4_performAt_308 : decode cX4_performAt 308 = .ok (.iload_n 3, 1) := by decide +kernel
theorem dX4_performAt_309 : decode cX4_performAt 309 = .ok (.if_icmp .eq 7, 3) := by decide +kernel
theorem dX4_performAt_312 : decode cX4_performAt 312 = .ok (.iconst 1, 1) := by decide +kernel
theorem dX4_performAt_313 : decode cX4_performAt 313 = .ok (.goto 4, 3) := by decide +kernel
theorem dX4_performAt_316 : decode cX4_performAt 316 = .ok (.iconst 0, 1) := by decide +kernel
theorem dX4_performAt_317 : decode cX4_performAt 317 = .ok (.invokevirtual 225, 3) := by decide +kernel
theorem dX4_performAt_320 : decode cX4_performAt 320 = .ok (.goto 63, 3) := by decide +kernel
theorem dX4_performAt_323 : decode cX4_performAt 323 = .ok (.aload_n 0, 1) := by decide +kernel
theorem dX4_performAt_324 : decode cX4_performAt 324 = .ok (.aload_n 0, 1) := by decide +kernel
theorem dX4_performAt_325 : decode cX4_performAt 325 = .ok (.getfield 58, 3) := by decide +kernel
theorem dX4_performAt_328 : decode cX4_performAt 328 = .ok (.iload_n 3, 1) := by decide +kernel
theorem dX4_performAt_329 : decode cX4_performAt 329 = .ok (.if_icmp .ne 7, 3) := by decide +kernel
theorem dX4_performAt_332 : decode cX4_performAt 332 = .ok (.iconst 1, 1) := by decide +kernel
theorem dX4_performAt_333 : decode cX4_performAt 333 = .ok (.goto 4, 3) := by decide +kernel
theorem dX4_performAt_336 : decode cX4_performAt 336 = .ok (.iconst 0, 1) := by decide +kernel
theorem dX4_performAt_337 : decode cX4_performAt 337 = .ok (.invokevirtual 225, 3) := by decide +kernel
theorem dX4_performAt_340 : decode cX4_performAt 340 = .ok (.goto 43, 3) := by decide +kernel
theorem dX4_performAt_343 : decode cX4_performAt 343 = .ok (.aload_n 0, 1) := by decide +kernel
theorem dX4_performAt_344 : decode cX4_performAt 344 = .ok (.iload_n 3, 1) := by decide +kernel
theorem dX4_performAt_345 : decode cX4_performAt 345 = .ok (.invokevirtual 250, 3) := by decide +kernel
theorem dX4_performAt_348 : decode cX4_performAt 348 = .ok (.goto 35, 3) := by decide +kernel
theorem dX4_performAt_351 : decode cX4_performAt 351 = .ok (.aload_n 0, 1) := by decide +kernel
theorem dX4_performAt_352 : decode cX4_performAt 352 = .ok (.iload_n 3, 1) := by decide +kernel
theorem dX4_performAt_353 : decode cX4_performAt 353 = .ok (.invokevirtual 253, 3) := by decide +kernel
theorem dX4_performAt_356 : decode cX4_performAt 356 = .ok (.goto 27, 3) := by decide +kernel
theorem dX4_performAt_359 : decode cX4_performAt 359 = .ok (.aload_n 0, 1) := by decide +kernel
theorem dX4_performAt_360 : decode cX4_performAt 360 = .ok (.iload_n 2, 1) := by decide +kernel
theorem dX4_performAt_361 : decode cX4_performAt 361 = .ok (.putfield 65, 3) := by decide +kernel
theorem dX4_performAt_364 : decode cX4_performAt 364 = .ok (.goto 19, 3) := by decide +kernel
theorem dX4_performAt_367 : decode cX4_performAt 367 = .ok (.aload_n 0, 1) := by decide +kernel
theorem dX4_performAt_368 : decode cX4_performAt 368 = .ok (.aload_n 0, 1) := by decide +kernel
theorem dX4_performAt_369 : decode cX4_performAt 369 = .ok (.invokevirtual 200, 3) := by decide +kernel
theorem dX4_performAt_372 : decode cX4_performAt 372 = .ok (.putfield 58, 3) := by decide +kernel
theorem dX4_performAt_375 : decode cX4_performAt 375 = .ok (.aload_n 0, 1) := by decide +kernel
theorem dX4_performAt_376 : decode cX4_performAt 376 = .ok (.iload_n 2, 1) := by decide +kernel
theorem dX4_performAt_377 : decode cX4_performAt 377 = .ok (.putfield 65, 3) := by decide +kernel
theorem dX4_performAt_380 : decode cX4_performAt 380 = .ok (.goto 3, 3) := by decide +kernel
theorem dX4_performAt_383 : decode cX4_performAt 383 = .ok (.return_, 1) := by decide +kernel
theorem dX4_add_0 : decode cX4_add 0 = .ok (.aload_n 0, 1) := by decide +kernel
theorem dX4_add_1 : decode cX4_add 1 = .ok (.getfield 58, 3) := by decide +kernel
theorem dX4_add_4 : decode cX4_add 4 = .ok (.iload_n 1, 1) := by decide +kernel
theorem dX4_add_5 : decode cX4_add 5 = .ok (.invokestatic 256, 3) := by decide +kernel
theorem dX4_add_8 : decode cX4_add 8 = .ok (.istore_n 2, 1) := by decide +kernel
theorem dX4_add_9 : decode cX4_add 9 = .ok (.aload_n 0, 1) := by decide +kernel
theorem dX4_add_10 : decode cX4_add 10 = .ok (.aload_n 0, 1) := by decide +kernel
theorem dX4_add_11 : decode cX4_add 11 = .ok (.getfield 58, 3) := by decide +kernel
theorem dX4_add_14 : decode cX4_add 14 = .ok (.iload_n 1, 1) := by decide +kernel
theorem dX4_add_15 : decode cX4_add 15 = .ok (.iload_n 2, 1) := by decide +kernel
theorem dX4_add_16 : decode cX4_add 16 = .ok (.invokevirtual 260, 3) := by decide +kernel
theorem dX4_add_19 : decode cX4_add 19 = .ok (.aload_n 0, 1) := by decide +kernel
theorem dX4_add_20 : decode cX4_add 20 = .ok (.iload_n 2, 1) := by decide +kernel
theorem dX4_add_21 : decode cX4_add 21 = .ok (.invokestatic 264, 3) := by decide +kernel
theorem dX4_add_24 : decode cX4_add 24 = .ok (.putfield 58, 3) := by decide +kernel
theorem dX4_add_27 : decode cX4_add 27 = .ok (.return_, 1) := by decide +kernel
theorem dX4_subtract_0 : decode cX4_subtract 0 = .ok (.aload_n 0, 1) := by decide +kernel
theorem dX4_subtract_1 : decode cX4_subtract 1 = .ok (.getfield 58, 3) := by decide +kernel
theorem dX4_subtract_4 : decode cX4_subtract 4 = .ok (.invokestatic 232, 3) := by decide +kernel
theorem dX4_subtract_7 : decode cX4_subtract 7 = .ok (.iload_n 1, 1) := by decide +kernel
theorem dX4_subtract_8 : decode cX4_subtract 8 = .ok (.invokestatic 256, 3) := by decide +kernel
theorem dX4_subtract_11 : decode cX4_subtract 11 = .ok (.istore_n 2, 1) := by decide +kernel
theorem dX4_subtract_12 : decode cX4_subtract 12 = .ok (.aload_n 0, 1) := by decide +kernel
theorem dX4_subtract_13 : decode cX4_subtract 13 = .ok (.aload_n 0, 1) := by decide +kernel
theorem dX4_subtract_14 : decode cX4_subtract 14 = .ok (.getfield 58, 3) := by decide +kernel
theorem dX4_subtract_17 : decode cX4_subtract 17 = .ok (.invokestatic 232, 3) := by decide +kernel
theorem dX4_subtract_20 : decode cX4_subtract 20 = .ok (.iload_n 1, 1) := by decide +kernel
theorem dX4_subtract_21 : decode cX4_subtract 21 = .ok (.iload_n 2, 1) := by decide +kernel
theorem dX4_subtract_22 : decode cX4_subtract 22 = .ok (.invokevirtual 260, 3) := by decide +kernel
theorem dX4_subtract_25 : decode cX4_subtract 25 = .ok (.aload_n 0, 1) := by decide +kernel
theorem dX4_subtract_26 : decode cX4_subtract 26 = .ok (.iload_n 2, 1) := by decide +kernel
theorem dX4_subtract_27 : decode cX4_subtract 27 = .ok (.invokestatic 232, 3) := by decide +kernel
theorem dX4_subtract_30 : decode cX4_subtract 30 = .ok (.putfield 58, 3) := by decide +kernel
theorem dX4_subtract_33 : decode cX4_subtract 33 = .ok (.return_, 1) := by decide +kernel
theorem dX4_noteOverflow_0 : decode cX4_noteOverflow 0 = .ok (.iload_n 1, 1) := by decide +kernel
theorem dX4_noteOverflow_1 : decode cX4_noteOverflow 1 = .ok (.invokestatic 157, 3) := by decide +kernel
theorem dX4_noteOverflow_4 : decode cX4_noteOverflow 4 = .ok (.iload_n 2, 1) := by decide +kernel
theorem dX4_noteOverflow_5 : decode cX4_noteOverflow 5 = .ok (.invokestatic 157, 3) := by decide +kernel
theorem dX4_noteOverflow_8 : decode cX4_noteOverflow 8 = .ok (.if_icmp .ne 32, 3) := by decide +kernel
theorem dX4_noteOverflow_11 : decode cX4_noteOverflow 11 = .ok (.iload_n 3, 1) := by decide +kernel
theorem dX4_noteOverflow_12 : decode cX4_noteOverflow 12 = .ok (.invokestatic 157, 3) := by decide +kernel
theorem dX4_noteOverflow_15 : decode cX4_noteOverflow 15 = .ok (.iload_n 1, 1) := by decide +kernel
theorem dX4_noteOverflow_16 : decode cX4_noteOverflow 16 = .ok (.invokestatic 157, 3) := by decide +kernel
theorem dX4_noteOverflow_19 : decode cX4_noteOverflow 19 = .ok (.if_icmp .eq 21, 3) := by decide +kernel
theorem dX4_noteOverflow_22 : decode cX4_noteOverflow 22 = .ok (.aload_n 0, 1) := by decide +kernel
theorem dX4_noteOverflow_23 : decode cX4_noteOverflow 23 = .ok (.iconst 1, 1) := by decide +kernel
theorem dX4_noteOverflow_24 : decode cX4_noteOverflow 24 = .ok (.putfield 68, 3) := by decide +kernel
theorem dX4_noteOverflow_27 : decode cX4_noteOverflow 27 = .ok (.aload_n 0, 1) := by decide +kernel
theorem dX4_noteOverflow_28 : decode cX4_noteOverflow 28 = .ok (.getfield 37, 3) := by decide +kernel
theorem dX4_noteOverflow_31 : decode cX4_noteOverflow 31 = .ok (.dup, 1) := by decide +kernel
theorem dX4_noteOverflow_32 : decode cX4_noteOverflow 32 = .ok (.getfield 129, 3) := by decide +kernel
theorem dX4_noteOverflow_35 : decode cX4_noteOverflow 35 = .ok (.iconst 1, 1) := by decide +kernel
theorem dX4_noteOverflow_36 : decode cX4_noteOverflow 36 = .ok (.iadd, 1) := by decide +kernel
theorem dX4_noteOverflow_37 : decode cX4_noteOverflow 37 = .ok (.putfield 129, 3) := by decide +kernel
theorem dX4_noteOverflow_40 : decode cX4_noteOverflow 40 = .ok (.return_, 1) := by decide +kernel
theorem dX4_index_0 : decode cX4_index 0 = .ok (.aload_n 0, 1) := by decide +kernel
theorem dX4_index_1 : decode cX4_index 1 = .ok (.iload_n 1, 1) := by decide +kernel
theorem dX4_index_2 : decode cX4_index 2 = .ok (.invokevirtual 48, 3) := by decide +kernel
theorem dX4_index_5 : decode cX4_index 5 = .ok (.iconst 1, 1) := by decide +kernel
theorem dX4_index_6 : decode cX4_index 6 = .ok (.iadd, 1) := by decide +kernel
theorem dX4_index_7 : decode cX4_index 7 = .ok (.istore_n 2, 1) := by decide +kernel
theorem dX4_index_8 : decode cX4_index 8 = .ok (.aload_n 0, 1) := by decide +kernel
theorem dX4_index_9 : decode cX4_index 9 = .ok (.iload_n 2, 1) := by decide +kernel
theorem dX4_index_10 : decode cX4_index 10 = .ok (.ldc 160, 2) := by decide +kernel
theorem dX4_index_12 : decode cX4_index 12 = .ok (.if_icmp .lt 10, 3) := by decide +kernel
theorem dX4_index_15 : decode cX4_index 15 = .ok (.iload_n 2, 1) := by decide +kernel
theorem dX4_index_16 : decode cX4_index 16 = .ok (.ldc 160, 2) := by decide +kernel
theorem dX4_index_18 : decode cX4_index 18 = .ok (.isub, 1) := by decide +kernel
theorem dX4_index_19 : decode cX4_index 19 = .ok (.goto 4, 3) := by decide +kernel
theorem dX4_index_22 : decode cX4_index 22 = .ok (.iload_n 2, 1) := by decide +kernel
theorem dX4_index_23 : decode cX4_index 23 = .ok (.putfield 58, 3) := by decide +kernel
theorem dX4_index_26 : decode cX4_index 26 = .ok (.aload_n 0, 1) := by decide +kernel
theorem dX4_index_27 : decode cX4_index 27 = .ok (.iload_n 1, 1) := by decide +kernel
theorem dX4_index_28 : decode cX4_index 28 = .ok (.aload_n 0, 1) := by decide +kernel
theorem dX4_index_29 : decode cX4_index 29 = .ok (.getfield 58, 3) := by decide +kernel
theorem dX4_index_32 : decode cX4_index 32 = .ok (.invokevirtual 52, 3) := by decide +kernel
theorem dX4_index_35 : decode cX4_index 35 = .ok (.return_, 1) := by decide +kernel
theorem dX4_multiplyStep_0 : decode cX4_multiplyStep 0 = .ok (.aload_n 0, 1) := by decide +kernel
theorem dX4_multiplyStep_1 : decode cX4_multiplyStep 1 = .ok (.getfield 62, 3) := by decide +kernel
theorem dX4_multiplyStep_4 : decode cX4_multiplyStep 4 = .ok (.iconst 1, 1) := by decide +kernel
theorem dX4_multiplyStep_5 : decode cX4_multiplyStep 5 = .ok (.iand, 1) := by decide +kernel
theorem dX4_multiplyStep_6 : decode cX4_multiplyStep 6 = .ok (.iconst 1, 1) := by decide +kernel
theorem dX4_multiplyStep_7 : decode cX4_multiplyStep 7 = .ok (.if_icmp .ne 18, 3) := by decide +kernel
theorem dX4_multiplyStep_10 : decode cX4_multiplyStep 10 = .ok (.aload_n 0, 1) := by decide +kernel
theorem dX4_multiplyStep_11 : decode cX4_multiplyStep 11 = .ok (.aload_n 0, 1) := by decide +kernel
theorem dX4_multiplyStep_12 : decode cX4_multiplyStep 12 = .ok (.getfield 58, 3) := by decide +kernel
theorem dX4_multiplyStep_15 : decode cX4_multiplyStep 15 = .ok (.iload_n 1, 1) := by decide +kernel
theorem dX4_multiplyStep_16 : decode cX4_multiplyStep 16 = .ok (.invokestatic 256, 3) := by decide +kernel
theorem dX4_multiplyStep_19 : decode cX4_multiplyStep 19 = .ok (.invokestatic 264, 3) := by decide +kernel
theorem dX4_multiplyStep_22 : decode cX4_multiplyStep 22 = .ok (.putfield 58, 3) := by decide +kernel
theorem dX4_multiplyStep_25 : decode cX4_multiplyStep 25 = .ok (.aload_n 0, 1) := by decide +kernel
theorem dX4_multiplyStep_26 : decode cX4_multiplyStep 26 = .ok (.aload_n 0, 1) := by decide +kernel
theorem dX4_multiplyStep_27 : decode cX4_multiplyStep 27 = .ok (.invokevirtual 267, 3) := by decide +kernel
theorem dX4_multiplyStep_30 : decode cX4_multiplyStep 30 = .ok (.iconst 1, 1) := by decide +kernel
theorem dX4_multiplyStep_31 : decode cX4_multiplyStep 31 = .ok (.lshr, 1) := by decide +kernel
theorem dX4_multiplyStep_32 : decode cX4_multiplyStep 32 = .ok (.invokevirtual 271, 3) := by decide +kernel
theorem dX4_multiplyStep_35 : decode cX4_multiplyStep 35 = .ok (.return_, 1) := by decide +kernel
theorem dX4_divideStep_0 : decode cX4_divideStep 0 = .ok (.iconst 1, 1) := by decide +kernel
theorem dX4_divideStep_1 : decode cX4_divideStep 1 = .ok (.aload_n 0, 1) := by decide +kernel
theorem dX4_divideStep_2 : decode cX4_divideStep 2 = .ok (.getfield 58, 3) := by decide +kernel
theorem dX4_divideStep_5 : decode cX4_divideStep 5 = .ok (.invokestatic 157, 3) := by decide +kernel
theorem dX4_divideStep_8 : decode cX4_divideStep 8 = .ok (.isub, 1) := by decide +kernel
theorem dX4_divideStep_9 : decode cX4_divideStep 9 = .ok (.istore_n 2, 1) := by decide +kernel
theorem dX4_divideStep_10 : decode cX4_divideStep 10 = .ok (.aload_n 0, 1) := by decide +kernel
theorem dX4_divideStep_11 : decode cX4_divideStep 11 = .ok (.aload_n 0, 1) := by decide +kernel
theorem dX4_divideStep_12 : decode cX4_divideStep 12 = .ok (.invokevirtual 267, 3) := by decide +kernel
theorem dX4_divideStep_15 : decode cX4_divideStep 15 = .ok (.iconst 1, 1) := by decide +kernel
theorem dX4_divideStep_16 : decode cX4_divideStep 16 = .ok (.lshl, 1) := by decide +kernel
theorem dX4_divideStep_17 : decode cX4_divideStep 17 = .ok (.iload_n 2, 1) := by decide +kernel
theorem dX4_divideStep_18 : decode cX4_divideStep 18 = .ok (.i2l, 1) := by decide +kernel
theorem dX4_divideStep_19 : decode cX4_divideStep 19 = .ok (.lor, 1) := by decide +kernel
theorem dX4_divideStep_20 : decode cX4_divideStep 20 = .ok (.invokevirtual 271, 3) := by decide +kernel
theorem dX4_divideStep_23 : decode cX4_divideStep 23 = .ok (.iload_n 2, 1) := by decide +kernel
theorem dX4_divideStep_24 : decode cX4_divideStep 24 = .ok (.iconst 1, 1) := by decide +kernel
theorem dX4_divideStep_25 : decode cX4_divideStep 25 = .ok (.if_icmp .ne 17, 3) := by decide +kernel
theorem dX4_divideStep_28 : decode cX4_divideStep 28 = .ok (.aload_n 0, 1) := by decide +kernel
theorem dX4_divideStep_29 : decode cX4_divideStep 29 = .ok (.getfield 58, 3) := by decide +kernel
theorem dX4_divideStep_32 : decode cX4_divideStep 32 = .ok (.iload_n 1, 1) := by decide +kernel
theorem dX4_divideStep_33 : decode cX4_divideStep 33 = .ok (.invokestatic 232, 3) := by decide +kernel
theorem dX4_divideStep_36 : decode cX4_divideStep 36 = .ok (.invokestatic 256, 3) := by decide +kernel
theorem dX4_divideStep_39 : decode cX4_divideStep 39 = .ok (.goto 15, 3) := by decide +kernel
theorem dX4_divideStep_42 : decode cX4_divideStep 42 = .ok (.aload_n 0, 1) := by decide +kernel
theorem dX4_divideStep_43 : decode cX4_divideStep 43 = .ok (.getfield 58, 3) := by decide +kernel
theorem dX4_divideStep_46 : decode cX4_divideStep 46 = .ok (.iload_n 1, 1) := by decide +kernel
theorem dX4_divideStep_47 : decode cX4_divideStep 47 = .ok (.invokestatic 256, 3) := by decide +kernel
theorem dX4_divideStep_50 : decode cX4_divideStep 50 = .ok (.iconst 1, 1) := by decide +kernel
theorem dX4_divideStep_51 : decode cX4_divideStep 51 = .ok (.invokestatic 256, 3) := by decide +kernel
theorem dX4_divideStep_54 : decode cX4_divideStep 54 = .ok (.istore_n 3, 1) := by decide +kernel
theorem dX4_divideStep_55 : decode cX4_divideStep 55 = .ok (.aload_n 0, 1) := by decide +kernel
theorem dX4_divideStep_56 : decode cX4_divideStep 56 = .ok (.iload_n 3, 1) := by decide +kernel
theorem dX4_divideStep_57 : decode cX4_divideStep 57 = .ok (.invokestatic 264, 3) := by decide +kernel
theorem dX4_divideStep_60 : decode cX4_divideStep 60 = .ok (.putfield 58, 3) := by decide +kernel
theorem dX4_divideStep_63 : decode cX4_divideStep 63 = .ok (.return_, 1) := by decide +kernel

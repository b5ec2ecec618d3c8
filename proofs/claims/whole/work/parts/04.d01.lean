theorem dX4_ran_0 : decode cX4_ran 0 = .ok (.iload_n 1, 1) := by decide +kernel
theorem dX4_ran_1 : decode cX4_ran 1 = .ok (.tableswitch 111 0 7 #[47, 55, 63, 71, 79, 87, 95, 103], 47) := by decide +kernel
theorem dX4_ran_48 : decode cX4_ran 48 = .ok (.aload_n 0, 1) := by decide +kernel
theorem dX4_ran_49 : decode cX4_ran 49 = .ok (.getfield 37, 3) := by decide +kernel
theorem dX4_ran_52 : decode cX4_ran 52 = .ok (.getfield 114, 3) := by decide +kernel
theorem dX4_ran_55 : decode cX4_ran 55 = .ok (.ireturn, 1) := by decide +kernel
theorem dX4_ran_56 : decode cX4_ran 56 = .ok (.aload_n 0, 1) := by decide +kernel
theorem dX4_ran_57 : decode cX4_ran 57 = .ok (.getfield 37, 3) := by decide +kernel
theorem dX4_ran_60 : decode cX4_ran 60 = .ok (.getfield 117, 3) := by decide +kernel
theorem dX4_ran_63 : decode cX4_ran 63 = .ok (.ireturn, 1) := by decide +kernel
theorem dX4_ran_64 : decode cX4_ran 64 = .ok (.aload_n 0, 1) := by decide +kernel
theorem dX4_ran_65 : decode cX4_ran 65 = .ok (.getfield 37, 3) := by decide +kernel
theorem dX4_ran_68 : decode cX4_ran 68 = .ok (.getfield 120, 3) := by decide +kernel
theorem dX4_ran_71 : decode cX4_ran 71 = .ok (.ireturn, 1) := by decide +kernel
theorem dX4_ran_72 : decode cX4_ran 72 = .ok (.aload_n 0, 1) := by decide +kernel
theorem dX4_ran_73 : decode cX4_ran 73 = .ok (.getfield 37, 3) := by decide +kernel
theorem dX4_ran_76 : decode cX4_ran 76 = .ok (.getfield 123, 3) := by decide +kernel
theorem dX4_ran_79 : decode cX4_ran 79 = .ok (.ireturn, 1) := by decide +kernel
theorem dX4_ran_80 : decode cX4_ran 80 = .ok (.aload_n 0, 1) := by decide +kernel
theorem dX4_ran_81 : decode cX4_ran 81 = .ok (.getfield 37, 3) := by decide +kernel
theorem dX4_ran_84 : decode cX4_ran 84 = .ok (.getfield 126, 3) := by decide +kernel
theorem dX4_ran_87 : decode cX4_ran 87 = .ok (.ireturn, 1) := by decide +kernel
theorem dX4_ran_88 : decode cX4_ran 88 = .ok (.aload_n 0, 1) := by decide +kernel
theorem dX4_ran_89 : decode cX4_ran 89 = .ok (.getfield 37, 3) := by decide +kernel
theorem dX4_ran_92 : decode cX4_ran 92 = .ok (.getfield 129, 3) := by decide +kernel
theorem dX4_ran_95 : decode cX4_ran 95 = .ok (.ireturn, 1) := by decide +kernel
theorem dX4_ran_96 : decode cX4_ran 96 = .ok (.aload_n 0, 1) := by decide +kernel
theorem dX4_ran_97 : decode cX4_ran 97 = .ok (.getfield 37, 3) := by decide +kernel
theorem dX4_ran_100 : decode cX4_ran 100 = .ok (.getfield 111, 3) := by decide +kernel
theorem dX4_ran_103 : decode cX4_ran 103 = .ok (.ireturn, 1) := by decide +kernel
theorem dX4_ran_104 : decode cX4_ran 104 = .ok (.aload_n 0, 1) := by decide +kernel
theorem dX4_ran_105 : decode cX4_ran 105 = .ok (.getfield 37, 3) := by decide +kernel
theorem dX4_ran_108 : decode cX4_ran 108 = .ok (.getfield 132, 3) := by decide +kernel
theorem dX4_ran_111 : decode cX4_ran 111 = .ok (.ireturn, 1) := by decide +kernel
theorem dX4_ran_112 : decode cX4_ran 112 = .ok (.iconst (-1), 1) := by decide +kernel
theorem dX4_ran_113 : decode cX4_ran 113 = .ok (.ireturn, 1) := by decide +kernel
theorem dX4_point_0 : decode cX4_point 0 = .ok (.iload_n 2, 1) := by decide +kernel
theorem dX4_point_1 : decode cX4_point 1 = .ok (.ifCond .lt 8, 3) := by decide +kernel
theorem dX4_point_4 : decode cX4_point 4 = .ok (.iload_n 2, 1) := by decide +kernel
theorem dX4_point_5 : decode cX4_point 5 = .ok (.iconst 1, 1) := by decide +kernel
theorem dX4_point_6 : decode cX4_point 6 = .ok (.if_icmp .le 5, 3) := by decide +kernel
theorem dX4_point_9 : decode cX4_point 9 = .ok (.iconst (-1), 1) := by decide +kernel
theorem dX4_point_10 : decode cX4_point 10 = .ok (.ireturn, 1) := by decide +kernel
theorem dX4_point_11 : decode cX4_point 11 = .ok (.aload_n 0, 1) := by decide +kernel
theorem dX4_point_12 : decode cX4_point 12 = .ok (.getfield 30, 3) := by decide +kernel
theorem dX4_point_15 : decode cX4_point 15 = .ok (.iload_n 1, 1) := by decide +kernel
theorem dX4_point_16 : decode cX4_point 16 = .ok (.invokevirtual 135, 3) := by decide +kernel
theorem dX4_point_19 : decode cX4_point 19 = .ok (.ifCond .ne 6, 3) := by decide +kernel
theorem dX4_point_22 : decode cX4_point 22 = .ok (.bipush (-9), 2) := by decide +kernel
theorem dX4_point_24 : decode cX4_point 24 = .ok (.ireturn, 1) := by decide +kernel
theorem dX4_point_25 : decode cX4_point 25 = .ok (.iload_n 2, 1) := by decide +kernel
theorem dX4_point_26 : decode cX4_point 26 = .ok (.ifCond .ne 14, 3) := by decide +kernel
theorem dX4_point_29 : decode cX4_point 29 = .ok (.aload_n 0, 1) := by decide +kernel
theorem dX4_point_30 : decode cX4_point 30 = .ok (.getfield 30, 3) := by decide +kernel
theorem dX4_point_33 : decode cX4_point 33 = .ok (.iload_n 1, 1) := by decide +kernel
theorem dX4_point_34 : decode cX4_point 34 = .ok (.invokevirtual 138, 3) := by decide +kernel
theorem dX4_point_37 : decode cX4_point 37 = .ok (.goto 11, 3) := by decide +kernel
theorem dX4_point_40 : decode cX4_point 40 = .ok (.aload_n 0, 1) := by decide +kernel
theorem dX4_point_41 : decode cX4_point 41 = .ok (.getfield 30, 3) := by decide +kernel
theorem dX4_point_44 : decode cX4_point 44 = .ok (.iload_n 1, 1) := by decide +kernel
theorem dX4_point_45 : decode cX4_point 45 = .ok (.invokevirtual 141, 3) := by decide +kernel
theorem dX4_point_48 : decode cX4_point 48 = .ok (.ireturn, 1) := by decide +kernel
theorem dX4_points_0 : decode cX4_points 0 = .ok (.aload_n 0, 1) := by decide +kernel
theorem dX4_points_1 : decode cX4_points 1 = .ok (.getfield 30, 3) := by decide +kernel
theorem dX4_points_4 : decode cX4_points 4 = .ok (.getfield 144, 3) := by decide +kernel
theorem dX4_points_7 : decode cX4_points 7 = .ok (.ireturn, 1) := by decide +kernel
theorem dX4_out_0 : decode cX4_out 0 = .ok (.iload_n 1, 1) := by decide +kernel
theorem dX4_out_1 : decode cX4_out 1 = .ok (.bipush (-2), 2) := by decide +kernel
theorem dX4_out_3 : decode cX4_out 3 = .ok (.if_icmp .ge 5, 3) := by decide +kernel
theorem dX4_out_6 : decode cX4_out 6 = .ok (.iconst (-1), 1) := by decide +kernel
theorem dX4_out_7 : decode cX4_out 7 = .ok (.ireturn, 1) := by decide +kernel
theorem dX4_out_8 : decode cX4_out 8 = .ok (.iload_n 1, 1) := by decide +kernel
theorem dX4_out_9 : decode cX4_out 9 = .ok (.bipush (-2), 2) := by decide +kernel
theorem dX4_out_11 : decode cX4_out 11 = .ok (.if_icmp .ne 11, 3) := by decide +kernel
theorem dX4_out_14 : decode cX4_out 14 = .ok (.aload_n 0, 1) := by decide +kernel
theorem dX4_out_15 : decode cX4_out 15 = .ok (.getfield 23, 3) := by decide +kernel
theorem dX4_out_18 : decode cX4_out 18 = .ok (.getfield 147, 3) := by decide +kernel
theorem dX4_out_21 : decode cX4_out 21 = .ok (.ireturn, 1) := by decide +kernel
theorem dX4_out_22 : decode cX4_out 22 = .ok (.iload_n 1, 1) := by decide +kernel
theorem dX4_out_23 : decode cX4_out 23 = .ok (.iconst (-1), 1) := by decide +kernel
theorem dX4_out_24 : decode cX4_out 24 = .ok (.if_icmp .ne 13, 3) := by decide +kernel
theorem dX4_out_27 : decode cX4_out 27 = .ok (.aload_n 0, 1) := by decide +kernel
theorem dX4_out_28 : decode cX4_out 28 = .ok (.getfield 23, 3) := by decide +kernel
theorem dX4_out_31 : decode cX4_out 31 = .ok (.getfield 150, 3) := by decide +kernel
theorem dX4_out_34 : decode cX4_out 34 = .ok (.goto 11, 3) := by decide +kernel
theorem dX4_out_37 : decode cX4_out 37 = .ok (.aload_n 0, 1) := by decide +kernel
theorem dX4_out_38 : decode cX4_out 38 = .ok (.getfield 23, 3) := by decide +kernel
theorem dX4_out_41 : decode cX4_out 41 = .ok (.iload_n 1, 1) := by decide +kernel
theorem dX4_out_42 : decode cX4_out 42 = .ok (.invokevirtual 153, 3) := by decide +kernel
theorem dX4_out_45 : decode cX4_out 45 = .ok (.ireturn, 1) := by decide +kernel
theorem dX4_value_0 : decode cX4_value 0 = .ok (.iload_n 1, 1) := by decide +kernel
theorem dX4_value_1 : decode cX4_value 1 = .ok (.invokestatic 45, 3) := by decide +kernel
theorem dX4_value_4 : decode cX4_value 4 = .ok (.ifCond .ne 6, 3) := by decide +kernel
theorem dX4_value_7 : decode cX4_value 7 = .ok (.ldc 156, 2) := by decide +kernel
theorem dX4_value_9 : decode cX4_value 9 = .ok (.ireturn, 1) := by decide +kernel
theorem dX4_value_10 : decode cX4_value 10 = .ok (.iload_n 1, 1) := by decide +kernel
theorem dX4_value_11 : decode cX4_value 11 = .ok (.invokestatic 157, 3) := by decide +kernel
theorem dX4_value_14 : decode cX4_value 14 = .ok (.ifCond .ne 7, 3) := by decide +kernel
theorem dX4_value_17 : decode cX4_value 17 = .ok (.iload_n 1, 1) := by decide +kernel
theorem dX4_value_18 : decode cX4_value 18 = .ok (.goto 7, 3) := by decide +kernel
theorem dX4_value_21 : decode cX4_value 21 = .ok (.iload_n 1, 1) := by decide +kernel
theorem dX4_value_22 : decode cX4_value 22 = .ok (.ldc 160, 2) := by decide +kernel
theorem dX4_value_24 : decode cX4_value 24 = .ok (.isub, 1) := by decide +kernel
theorem dX4_value_25 : decode cX4_value 25 = .ok (.ireturn, 1) := by decide +kernel
theorem dX4_word_0 : decode cX4_word 0 = .ok (.iload_n 1, 1) := by decide +kernel
theorem dX4_word_1 : decode cX4_word 1 = .ok (.ldc 161, 2) := by decide +kernel
theorem dX4_word_3 : decode cX4_word 3 = .ok (.if_icmp .lt 9, 3) := by decide +kernel
theorem dX4_word_6 : decode cX4_word 6 = .ok (.iload_n 1, 1) := by decide +kernel
theorem dX4_word_7 : decode cX4_word 7 = .ok (.ldc 162, 2) := by decide +kernel
theorem dX4_word_9 : decode cX4_word 9 = .ok (.if_icmp .le 5, 3) := by decide +kernel
theorem dX4_word_12 : decode cX4_word 12 = .ok (.iconst (-1), 1) := by decide +kernel
theorem dX4_word_13 : decode cX4_word 13 = .ok (.ireturn, 1) := by decide +kernel
theorem dX4_word_14 : decode cX4_word 14 = .ok (.iload_n 1, 1) := by decide +kernel
theorem dX4_word_15 : decode cX4_word 15 = .ok (.ifCond .ge 10, 3) := by decide +kernel
theorem dX4_word_18 : decode cX4_word 18 = .ok (.iload_n 1, 1) := by decide +kernel
theorem dX4_word_19 : decode cX4_word 19 = .ok (.ldc 160, 2) := by decide +kernel
theorem dX4_word_21 : decode cX4_word 21 = .ok (.iadd, 1) := by decide +kernel
theorem dX4_word_22 : decode cX4_word 22 = .ok (.goto 4, 3) := by decide +kernel
theorem dX4_word_25 : decode cX4_word 25 = .ok (.iload_n 1, 1) := by decide +kernel
theorem dX4_word_26 : decode cX4_word 26 = .ok (.ireturn, 1) := by decide +kernel
theorem dX4_reads_0 : decode cX4_reads 0 = .ok (.iload_n 1, 1) := by decide +kernel
theorem dX4_reads_1 : decode cX4_reads 1 = .ok (.invokestatic 45, 3) := by decide +kernel
theorem dX4_reads_4 : decode cX4_reads 4 = .ok (.ifCond .ne 5, 3) := by decide +kernel
theorem dX4_reads_7 : decode cX4_reads 7 = .ok (.iconst (-1), 1) := by decide +kernel
theorem dX4_reads_8 : decode cX4_reads 8 = .ok (.ireturn, 1) := by decide +kernel
theorem dX4_reads_9 : decode cX4_reads 9 = .ok (.iload_n 2, 1) := by decide +kernel
theorem dX4_reads_10 : decode cX4_reads 10 = .ok (.tableswitch 92 0 5 #[38, 43, 56, 61, 66, 79], 38) := by decide +kernel
theorem dX4_reads_48 : decode cX4_reads 48 = .ok (.iload_n 1, 1) := by decide +kernel
theorem dX4_reads_49 : decode cX4_reads 49 = .ok (.invokestatic 163, 3) := by decide +kernel
theorem dX4_reads_52 : decode cX4_reads 52 = .ok (.ireturn, 1) := by decide +kernel
theorem dX4_reads_53 : decode cX4_reads 53 = .ok (.iload_n 1, 1) := by decide +kernel
theorem dX4_reads_54 : decode cX4_reads 54 = .ok (.invokestatic 166, 3) := by decide +kernel
theorem dX4_reads_57 : decode cX4_reads 57 = .ok (.ifCond .eq 7, 3) := by decide +kernel
theorem dX4_reads_60 : decode cX4_reads 60 = .ok (.iconst 1, 1) := by decide +kernel
theorem dX4_reads_61 : decode cX4_reads 61 = .ok (.goto 4, 3) := by decide +kernel
theorem dX4_reads_64 : decode cX4_reads 64 = .ok (.iconst 0, 1) := by decide +kernel
theorem dX4_reads_65 : decode cX4_reads 65 = .ok (.ireturn, 1) := by decide +kernel
theorem dX4_reads_66 : decode cX4_reads 66 = .ok (.iload_n 1, 1) := by decide +kernel
theorem dX4_reads_67 : decode cX4_reads 67 = .ok (.invokestatic 169, 3) := by decide +kernel
theorem dX4_reads_70 : decode cX4_reads 70 = .ok (.ireturn, 1) := by decide +kernel
theorem dX4_reads_71 : decode cX4_reads 71 = .ok (.iload_n 1, 1) := by decide +kernel
theorem dX4_reads_72 : decode cX4_reads 72 = .ok (.invokestatic 170, 3) := by decide +kernel
theorem dX4_reads_75 : decode cX4_reads 75 = .ok (.ireturn, 1) := by decide +kernel
theorem dX4_reads_76 : decode cX4_reads 76 = .ok (.iload_n 1, 1) := by decide +kernel
theorem dX4_reads_77 : decode cX4_reads 77 = .ok (.invokestatic 173, 3) := by decide +kernel
theorem dX4_reads_80 : decode cX4_reads 80 = .ok (.ifCond .eq 7, 3) := by decide +kernel
theorem dX4_reads_83 : decode cX4_reads 83 = .ok (.iconst 1, 1) := by decide +kernel
theorem dX4_reads_84 : decode cX4_reads 84 = .ok (.goto 4, 3) := by decide +kernel
theorem dX4_reads_87 : decode cX4_reads 87 = .ok (.iconst 0, 1) := by decide +kernel
theorem dX4_reads_88 : decode cX4_reads 88 = .ok (.ireturn, 1) := by decide +kernel
theorem dX4_reads_89 : decode cX4_reads 89 = .ok (.iload_n 1, 1) := by decide +kernel
theorem dX4_reads_90 : decode cX4_reads 90 = .ok (.invokestatic 176, 3) := by decide +kernel
theorem dX4_reads_93 : decode cX4_reads 93 = .ok (.ifCond .eq 7, 3) := by decide +kernel
theorem dX4_reads_96 : decode cX4_reads 96 = .ok (.iconst 1, 1) := by decide +kernel
theorem dX4_reads_97 : decode cX4_reads 97 = .ok (.goto 4, 3) := by decide +kernel
theorem dX4_reads_100 : decode cX4_reads 100 = .ok (.iconst 0, 1) := by decide +kernel
theorem dX4_reads_101 : decode cX4_reads 101 = .ok (.ireturn, 1) := by decide +kernel
theorem dX4_reads_102 : decode cX4_reads 102 = .ok (.iconst (-1), 1) := by decide +kernel
theorem dX4_reads_103 : decode cX4_reads 103 = .ok (.ireturn, 1) := by decide +kernel
theorem dX4_digest_0 : decode cX4_digest 0 = .ok (.iconst 0, 1) := by decide +kernel
theorem dX4_digest_1 : decode cX4_digest 1 = .ok (.istore_n 1, 1) := by decide +kernel
theorem dX4_digest_2 : decode cX4_digest 2 = .ok (.iconst 0, 1) := by decide +kernel
theorem dX4_digest_3 : decode cX4_digest 3 = .ok (.istore_n 2, 1) := by decide +kernel
theorem dX4_digest_4 : decode cX4_digest 4 = .ok (.iload_n 2, 1) := by decide +kernel
theorem dX4_digest_5 : decode cX4_digest 5 = .ok (.sipush 4096, 3) := by decide +kernel
theorem dX4_digest_8 : decode cX4_digest 8 = .ok (.if_icmp .ge 20, 3) := by decide +kernel
theorem dX4_digest_11 : decode cX4_digest 11 = .ok (.bipush 31, 2) := by decide +kernel
theorem dX4_digest_13 : decode cX4_digest 13 = .ok (.iload_n 1, 1) := by decide +kernel
theorem dX4_digest_14 : decode cX4_digest 14 = .ok (.imul, 1) := by decide +kernel
theorem dX4_digest_15 : decode cX4_digest 15 = .ok (.aload_n 0, 1) := by decide +kernel
theorem dX4_digest_16 : decode cX4_digest 16 = .ok (.iload_n 2, 1) := by decide +kernel
theorem dX4_digest_17 : decode cX4_digest 17 = .ok (.invokevirtual 48, 3) := by decide +kernel
theorem dX4_digest_20 : decode cX4_digest 20 = .ok (.iadd, 1) := by decide +kernel
theorem dX4_digest_21 : decode cX4_digest 21 = .ok (.istore_n 1, 1) := by decide +kernel
theorem dX4_digest_22 : decode cX4_digest 22 = .ok (.iinc 2 1, 3) := by decide +kernel
theorem dX4_digest_25 : decode cX4_digest 25 = .ok (.goto (-21), 3) := by decide +kernel
theorem dX4_digest_28 : decode cX4_digest 28 = .ok (.iload_n 1, 1) := by decide +kernel
theorem dX4_digest_29 : decode cX4_digest 29 = .ok (.ireturn, 1) := by decide +kernel
theorem dX4_isAddress_0 : decode cX4_isAddress 0 = .ok (.iload_n 0, 1) := by decide +kernel
theorem dX4_isAddress_1 : decode cX4_isAddress 1 = .ok (.ifCond .lt 14, 3) := by decide +kernel
theorem dX4_isAddress_4 : decode cX4_isAddress 4 = .ok (.iload_n 0, 1) := by decide +kernel
theorem dX4_isAddress_5 : decode cX4_isAddress 5 = .ok (.sipush 4095, 3) := by decide +kernel
theorem dX4_isAddress_8 : decode cX4_isAddress 8 = .ok (.if_icmp .gt 7, 3) := by decide +kernel
theorem dX4_isAddress_11 : decode cX4_isAddress 11 = .ok (.iconst 1, 1) := by decide +kernel
theorem dX4_isAddress_12 : decode cX4_isAddress 12 = .ok (.goto 4, 3) := by decide +kernel
theorem dX4_isAddress_15 : decode cX4_isAddress 15 = .ok (.iconst 0, 1) := by decide +kernel
theorem dX4_isAddress_16 : decode cX4_isAddress 16 = .ok (.ireturn, 1) := by decide +kernel
theorem dX4_isWord_0 : decode cX4_isWord 0 = .ok (.iload_n 0, 1) := by decide +kernel
theorem dX4_isWord_1 : decode cX4_isWord 1 = .ok (.ifCond .lt 13, 3) := by decide +kernel
theorem dX4_isWord_4 : decode cX4_isWord 4 = .ok (.iload_n 0, 1) := by decide +kernel
theorem dX4_isWord_5 : decode cX4_isWord 5 = .ok (.ldc 160, 2) := by decide +kernel
theorem dX4_isWord_7 : decode cX4_isWord 7 = .ok (.if_icmp .gt 7, 3) := by decide +kernel
theorem dX4_isWord_10 : decode cX4_isWord 10 = .ok (.iconst 1, 1) := by decide +kernel
theorem dX4_isWord_11 : decode cX4_isWord 11 = .ok (.goto 4, 3) := by decide +kernel
theorem dX4_isWord_14 : decode cX4_isWord 14 = .ok (.iconst 0, 1) := by decide +kernel
theorem dX4_isWord_15 : decode cX4_isWord 15 = .ok (.ireturn, 1) := by decide +kernel
theorem dX4_mostOf_0 : decode cX4_mostOf 0 = .ok (.iload_n 0, 1) := by decide +kernel
theorem dX4_mostOf_1 : decode cX4_mostOf 1 = .ok (.tableswitch 45 0 4 #[35, 35, 38, 45, 42], 35) := by decide +kernel
theorem dX4_mostOf_36 : decode cX4_mostOf 36 = .ok (.ldc 160, 2) := by decide +kernel
theorem dX4_mostOf_38 : decode cX4_mostOf 38 = .ok (.ireturn, 1) := by decide +kernel
theorem dX4_mostOf_39 : decode cX4_mostOf 39 = .ok (.sipush 4095, 3) := by decide +kernel
theorem dX4_mostOf_42 : decode cX4_mostOf 42 = .ok (.ireturn, 1) := by decide +kernel
theorem dX4_mostOf_43 : decode cX4_mostOf 43 = .ok (.bipush 63, 2) := by decide +kernel
theorem dX4_mostOf_45 : decode cX4_mostOf 45 = .ok (.ireturn, 1) := by decide +kernel
theorem dX4_mostOf_46 : decode cX4_mostOf 46 = .ok (.iconst 1, 1) := by decide +kernel
theorem dX4_mostOf_47 : decode cX4_mostOf 47 = .ok (.ireturn, 1) := by decide +kernel
theorem dX4_signOf_0 : decode cX4_signOf 0 = .ok (.iload_n 0, 1) := by decide +kernel
theorem dX4_signOf_1 : decode cX4_signOf 1 = .ok (.ldc 179, 2) := by decide +kernel
theorem dX4_signOf_3 : decode cX4_signOf 3 = .ok (.iand, 1) := by decide +kernel
theorem dX4_signOf_4 : decode cX4_signOf 4 = .ok (.ifCond .ne 7, 3) := by decide +kernel
theorem dX4_signOf_7 : decode cX4_signOf 7 = .ok (.iconst 0, 1) := by decide +kernel
theorem dX4_signOf_8 : decode cX4_signOf 8 = .ok (.goto 4, 3) := by decide +kernel
theorem dX4_signOf_11 : decode cX4_signOf 11 = .ok (.iconst 1, 1) := by decide +kernel
theorem dX4_signOf_12 : decode cX4_signOf 12 = .ok (.ireturn, 1) := by decide +kernel
theorem dX4_not_0 : decode cX4_not 0 = .ok (.ldc 160, 2) := by decide +kernel
theorem dX4_not_2 : decode cX4_not 2 = .ok (.iload_n 0, 1) := by decide +kernel
theorem dX4_not_3 : decode cX4_not 3 = .ok (.isub, 1) := by decide +kernel
theorem dX4_not_4 : decode cX4_not 4 = .ok (.ireturn, 1) := by decide +kernel
theorem dX4_sum_0 : decode cX4_sum 0 = .ok (.iload_n 0, 1) := by decide +kernel
theorem dX4_sum_1 : decode cX4_sum 1 = .ok (.iload_n 1, 1) := by decide +kernel
theorem dX4_sum_2 : decode cX4_sum 2 = .ok (.iadd, 1) := by decide +kernel
theorem dX4_sum_3 : decode cX4_sum 3 = .ok (.istore_n 2, 1) := by decide +kernel
theorem dX4_sum_4 : decode cX4_sum 4 = .ok (.iload_n 2, 1) := by decide +kernel
theorem dX4_sum_5 : decode cX4_sum 5 = .ok (.ldc 160, 2) := by decide +kernel
theorem dX4_sum_7 : decode cX4_sum 7 = .ok (.if_icmp .le 10, 3) := by decide +kernel
theorem dX4_sum_10 : decode cX4_sum 10 = .ok (.iload_n 2, 1) := by decide +kernel
theorem dX4_sum_11 : decode cX4_sum 11 = .ok (.ldc 160, 2) := by decide +kernel
theorem dX4_sum_13 : decode cX4_sum 13 = .ok (.isub, 1) := by decide +kernel
theorem dX4_sum_14 : decode cX4_sum 14 = .ok (.goto 4, 3) := by decide +kernel
theorem dX4_sum_17 : decode cX4_sum 17 = .ok (.iload_n 2, 1) := by decide +kernel
theorem dX4_sum_18 : decode cX4_sum 18 = .ok (.ireturn, 1) := by decide +kernel
theorem dX4_withoutMinusZero_0 : decode cX4_withoutMinusZero 0 = .ok (.iload_n 0, 1) := by decide +kernel
theorem dX4_withoutMinusZero_1 : decode cX4_withoutMinusZero 1 = .ok (.ldc 160, 2) := by decide +kernel
theorem dX4_withoutMinusZero_3 : decode cX4_withoutMinusZero 3 = .ok (.if_icmp .ne 7, 3) := by decide +kernel
theorem dX4_withoutMinusZero_6 : decode cX4_withoutMinusZero 6 = .ok (.iconst 0, 1) := by decide +kernel
theorem dX4_withoutMinusZero_7 : decode cX4_withoutMinusZero 7 = .ok (.goto 4, 3) := by decide +kernel
theorem dX4_withoutMinusZero_10 : decode cX4_withoutMinusZero 10 = .ok (.iload_n 0, 1) := by decide +kernel
theorem dX4_withoutMinusZero_11 : decode cX4_withoutMinusZero 11 = .ok (.ireturn, 1) := by decide +kernel
theorem dX4_codeOf_0 : decode cX4_codeOf 0 = .ok (.iload_n 0, 1) := by decide +kernel
theorem dX4_codeOf_1 : decode cX4_codeOf 1 = .ok (.bipush 13, 2) := by decide +kernel
theorem dX4_codeOf_3 : decode cX4_codeOf 3 = .ok (.ishr, 1) := by decide +kernel
theorem dX4_codeOf_4 : decode cX4_codeOf 4 = .ok (.ireturn, 1) := by decide +kernel
theorem dX4_hasI_0 : decode cX4_hasI 0 = .ok (.iload_n 0, 1) := by decide +kernel
theorem dX4_hasI_1 : decode cX4_hasI 1 = .ok (.sipush 4096, 3) := by decide +kernel
theorem dX4_hasI_4 : decode cX4_hasI 4 = .ok (.iand, 1) := by decide +kernel
theorem dX4_hasI_5 : decode cX4_hasI 5 = .ok (.ifCond .eq 7, 3) := by decide +kernel
theorem dX4_hasI_8 : decode cX4_hasI 8 = .ok (.iconst 1, 1) := by decide +kernel
theorem dX4_hasI_9 : decode cX4_hasI 9 = .ok (.goto 4, 3) := by decide +kernel
theorem dX4_hasI_12 : decode cX4_hasI 12 = .ok (.iconst 0, 1) := by decide +kernel
theorem dX4_hasI_13 : decode cX4_hasI 13 = .ok (.ireturn, 1) := by decide +kernel
theorem dX4_yOf_0 : decode cX4_yOf 0 = .ok (.iload_n 0, 1) := by decide +kernel
theorem dX4_yOf_1 : decode cX4_yOf 1 = .ok (.sipush 4095, 3) := by decide +kernel
theorem dX4_yOf_4 : decode cX4_yOf 4 = .ok (.iand, 1) := by decide +kernel
theorem dX4_yOf_5 : decode cX4_yOf 5 = .ok (.ireturn, 1) := by decide +kernel
theorem dX4_onesOf_0 : decode cX4_onesOf 0 = .ok (.iload_n 0, 1) := by decide +kernel
theorem dX4_onesOf_1 : decode cX4_onesOf 1 = .ok (.sipush 511, 3) := by decide +kernel
theorem dX4_onesOf_4 : decode cX4_onesOf 4 = .ok (.iand, 1) := by decide +kernel
theorem dX4_onesOf_5 : decode cX4_onesOf 5 = .ok (.invokestatic 180, 3) := by decide +kernel
theorem dX4_onesOf_8 : decode cX4_onesOf 8 = .ok (.ireturn, 1) := by decide +kernel
theorem dX4_shiftKindOf_0 : decode cX4_shiftKindOf 0 = .ok (.iload_n 0, 1) := by decide +kernel
theorem dX4_shiftKindOf_1 : decode cX4_shiftKindOf 1 = .ok (.bipush 9, 2) := by decide +kernel
theorem dX4_shiftKindOf_3 : decode cX4_shiftKindOf 3 = .ok (.ishr, 1) := by decide +kernel
theorem dX4_shiftKindOf_4 : decode cX4_shiftKindOf 4 = .ok (.bipush 15, 2) := by decide +kernel
theorem dX4_shiftKindOf_6 : decode cX4_shiftKindOf 6 = .ok (.iand, 1) := by decide +kernel
theorem dX4_shiftKindOf_7 : decode cX4_shiftKindOf 7 = .ok (.ireturn, 1) := by decide +kernel
theorem dX4_hasAddress_0 : decode cX4_hasAddress 0 = .ok (.iload_n 0, 1) := by decide +kernel
theorem dX4_hasAddress_1 : decode cX4_hasAddress 1 = .ok (.invokestatic 163, 3) := by decide +kernel
theorem dX4_hasAddress_4 : decode cX4_hasAddress 4 = .ok (.istore_n 1, 1) := by decide +kernel
theorem dX4_hasAddress_5 : decode cX4_hasAddress 5 = .ok (.iload_n 1, 1) := by decide +kernel
theorem dX4_hasAddress_6 : decode cX4_hasAddress 6 = .ok (.iconst 1, 1) := by decide +kernel
theorem dX4_hasAddress_7 : decode cX4_hasAddress 7 = .ok (.if_icmp .lt 8, 3) := by decide +kernel
theorem dX4_hasAddress_10 : decode cX4_hasAddress 10 = .ok (.iload_n 1, 1) := by decide +kernel
theorem dX4_hasAddress_11 : decode cX4_hasAddress 11 = .ok (.iconst 4, 1) := by decide +kernel
theorem dX4_hasAddress_12 : decode cX4_hasAddress 12 = .ok (.if_icmp .le 27, 3) := by decide +kernel
theorem dX4_hasAddress_15 : decode cX4_hasAddress 15 = .ok (.iload_n 1, 1) := by decide +kernel
theorem dX4_hasAddress_16 : decode cX4_hasAddress 16 = .ok (.bipush 8, 2) := by decide +kernel
theorem dX4_hasAddress_18 : decode cX4_hasAddress 18 = .ok (.if_icmp .lt 9, 3) := by decide +kernel
theorem dX4_hasAddress_21 : decode cX4_hasAddress 21 = .ok (.iload_n 1, 1) := by decide +kernel
theorem dX4_hasAddress_22 : decode cX4_hasAddress 22 = .ok (.bipush 14, 2) := by decide +kernel
theorem dX4_hasAddress_24 : decode cX4_hasAddress 24 = .ok (.if_icmp .le 15, 3) := by decide +kernel
theorem dX4_hasAddress_27 : decode cX4_hasAddress 27 = .ok (.iload_n 1, 1) := by decide +kernel
theorem dX4_hasAddress_28 : decode cX4_hasAddress 28 = .ok (.bipush 16, 2) := by decide +kernel
theorem dX4_hasAddress_30 : decode cX4_hasAddress 30 = .ok (.if_icmp .lt 13, 3) := by decide +kernel
theorem dX4_hasAddress_33 : decode cX4_hasAddress 33 = .ok (.iload_n 1, 1) := by decide +kernel
theorem dX4_hasAddress_34 : decode cX4_hasAddress 34 = .ok (.bipush 25, 2) := by decide +kernel
theorem dX4_hasAddress_36 : decode cX4_hasAddress 36 = .ok (.if_icmp .gt 7, 3) := by decide +kernel
theorem dX4_hasAddress_39 : decode cX4_hasAddress 39 = .ok (.iconst 1, 1) := by decide +kernel
theorem dX4_hasAddress_40 : decode cX4_hasAddress 40 = .ok (.goto 4, 3) := by decide +kernel
theorem dX4_hasAddress_43 : decode cX4_hasAddress 43 = .ok (.iconst 0, 1) := by decide +kernel
theorem dX4_hasAddress_44 : decode cX4_hasAddress 44 = .ok (.ireturn, 1) := by decide +kernel
theorem dX4_isIllegal_0 : decode cX4_isIllegal 0 = .ok (.iload_n 0, 1) := by decide +kernel
theorem dX4_isIllegal_1 : decode cX4_isIllegal 1 = .ok (.invokestatic 163, 3) := by decide +kernel
theorem dX4_isIllegal_4 : decode cX4_isIllegal 4 = .ok (.lookupswitch 77 #[(0, 60), (5, 60), (6, 60), (15, 60), (27, 62), (30, 60)], 60) := by decide +kernel
theorem dX4_isIllegal_64 : decode cX4_isIllegal 64 = .ok (.iconst 1, 1) := by decide +kernel
theorem dX4_isIllegal_65 : decode cX4_isIllegal 65 = .ok (.ireturn, 1) := by decide +kernel
theorem dX4_isIllegal_66 : decode cX4_isIllegal 66 = .ok (.iload_n 0, 1) := by decide +kernel
theorem dX4_isIllegal_67 : decode cX4_isIllegal 67 = .ok (.invokestatic 185, 3) := by decide +kernel
theorem dX4_isIllegal_70 : decode cX4_isIllegal 70 = .ok (.iconst 3, 1) := by decide +kernel
theorem dX4_isIllegal_71 : decode cX4_isIllegal 71 = .ok (.iand, 1) := by decide +kernel
theorem dX4_isIllegal_72 : decode cX4_isIllegal 72 = .ok (.ifCond .ne 7, 3) := by decide +kernel
theorem dX4_isIllegal_75 : decode cX4_isIllegal 75 = .ok (.iconst 1, 1) := by decide +kernel
theorem dX4_isIllegal_76 : decode cX4_isIllegal 76 = .ok (.goto 4, 3) := by decide +kernel
theorem dX4_isIllegal_79 : decode cX4_isIllegal 79 = .ok (.iconst 0, 1) := by decide +kernel
theorem dX4_isIllegal_80 : decode cX4_isIllegal 80 = .ok (.ireturn, 1) := by decide +kernel
theorem dX4_isIllegal_81 : decode cX4_isIllegal 81 = .ok (.iconst 0, 1) := by decide +kernel
theorem dX4_isIllegal_82 : decode cX4_isIllegal 82 = .ok (.ireturn, 1) := by decide +kernel
theorem dX4_fetch_0 : decode cX4_fetch 0 = .ok (.aload_n 0, 1) := by decide +kernel
theorem dX4_fetch_1 : decode cX4_fetch 1 = .ok (.getfield 9, 3) := by decide +kernel
theorem dX4_fetch_4 : decode cX4_fetch 4 = .ok (.iload_n 1, 1) := by decide +kernel
theorem dX4_fetch_5 : decode cX4_fetch 5 = .ok (.sipush 4095, 3) := by decide +kernel
theorem dX4_fetch_8 : decode cX4_fetch 8 = .ok (.iand, 1) := by decide +kernel
theorem dX4_fetch_9 : decode cX4_fetch 9 = .ok (.iaload, 1) := by decide +kernel
theorem dX4_fetch_10 : decode cX4_fetch 10 = .ok (.ireturn, 1) := by decide +kernel
theorem dX4_store_0 : decode cX4_store 0 = .ok (.aload_n 0, 1) := by decide +kernel
theorem dX4_store_1 : decode cX4_store 1 = .ok (.getfield 9, 3) := by decide +kernel
theorem dX4_store_4 : decode cX4_store 4 = .ok (.iload_n 1, 1) := by decide +kernel
theorem dX4_store_5 : decode cX4_store 5 = .ok (.sipush 4095, 3) := by decide +kernel
theorem dX4_store_8 : decode cX4_store 8 = .ok (.iand, 1) := by decide +kernel
theorem dX4_store_9 : decode cX4_store 9 = .ok (.iload_n 2, 1) := by decide +kernel
theorem dX4_store_10 : decode cX4_store 10 = .ok (.iastore, 1) := by decide +kernel
theorem dX4_store_11 : decode cX4_store 11 = .ok (.return_, 1) := by decide +kernel
theorem dX4_place_0 : decode cX4_place 0 = .ok (.aload_n 0, 1) := by decide +kernel
theorem dX4_place_1 : decode cX4_place 1 = .ok (.getfield 68, 3) := by decide +kernel
theorem dX4_place_4 : decode cX4_place 4 = .ok (.ifCond .ne 10, 3) := by decide +kernel
theorem dX4_place_7 : decode cX4_place 7 = .ok (.aload_n 0, 1) := by decide +kernel
theorem dX4_place_8 : decode cX4_place 8 = .ok (.getfield 65, 3) := by decide +kernel
theorem dX4_place_11 : decode cX4_place 11 = .ok (.goto 10, 3) := by decide +kernel
theorem dX4_place_14 : decode cX4_place 14 = .ok (.aload_n 0, 1) := by decide +kernel
theorem dX4_place_15 : decode cX4_place 15 = .ok (.getfield 65, 3) := by decide +kernel
theorem dX4_place_18 : decode cX4_place 18 = .ok (.ldc 179, 2) := by decide +kernel
theorem dX4_place_20 : decode cX4_place 20 = .ok (.iadd, 1) := by decide +kernel
theorem dX4_place_21 : decode cX4_place 21 = .ok (.ireturn, 1) := by decide +kernel
theorem dX4_advance_0 : decode cX4_advance 0 = .ok (.aload_n 0, 1) := by decide +kernel
theorem dX4_advance_1 : decode cX4_advance 1 = .ok (.aload_n 0, 1) := by decide +kernel
theorem dX4_advance_2 : decode cX4_advance 2 = .ok (.getfield 65, 3) := by decide +kernel
theorem dX4_advance_5 : decode cX4_advance 5 = .ok (.iconst 1, 1) := by decide +kernel
theorem dX4_advance_6 : decode cX4_advance 6 = .ok (.iadd, 1) := by decide +kernel
theorem dX4_advance_7 : decode cX4_advance 7 = .ok (.sipush 4095, 3) := by decide +kernel
theorem dX4_advance_10 : decode cX4_advance 10 = .ok (.iand, 1) := by decide +kernel
theorem dX4_advance_11 : decode cX4_advance 11 = .ok (.putfield 65, 3) := by decide +kernel
theorem dX4_advance_14 : decode cX4_advance 14 = .ok (.return_, 1) := by decide +kernel
theorem dX4_skipIf_0 : decode cX4_skipIf 0 = .ok (.iload_n 1, 1) := by decide +kernel
theorem dX4_skipIf_1 : decode cX4_skipIf 1 = .ok (.ifCond .eq 20, 3) := by decide +kernel
theorem dX4_skipIf_4 : decode cX4_skipIf 4 = .ok (.aload_n 0, 1) := by decide +kernel
theorem dX4_skipIf_5 : decode cX4_skipIf 5 = .ok (.invokevirtual 188, 3) := by decide +kernel
theorem dX4_skipIf_8 : decode cX4_skipIf 8 = .ok (.aload_n 0, 1) := by decide +kernel
theorem dX4_skipIf_9 : decode cX4_skipIf 9 = .ok (.getfield 37, 3) := by decide +kernel
theorem dX4_skipIf_12 : decode cX4_skipIf 12 = .ok (.dup, 1) := by decide +kernel
theorem dX4_skipIf_13 : decode cX4_skipIf 13 = .ok (.getfield 126, 3) := by decide +kernel
theorem dX4_skipIf_16 : decode cX4_skipIf 16 = .ok (.iconst 1, 1) := by decide +kernel
theorem dX4_skipIf_17 : decode cX4_skipIf 17 = .ok (.iadd, 1) := by decide +kernel
theorem dX4_skipIf_18 : decode cX4_skipIf 18 = .ok (.putfield 126, 3) := by decide +kernel
theorem dX4_skipIf_21 : decode cX4_skipIf 21 = .ok (.return_, 1) := by decide +kernel
theorem dX4_addressOf_0 : decode cX4_addressOf 0 = .ok (.iload_n 1, 1) := by decide +kernel
theorem dX4_addressOf_1 : decode cX4_addressOf 1 = .ok (.istore_n 2, 1) := by decide +kernel
theorem dX4_addressOf_2 : decode cX4_addressOf 2 = .ok (.iconst 0, 1) := by decide +kernel
theorem dX4_addressOf_3 : decode cX4_addressOf 3 = .ok (.istore_n 3, 1) := by decide +kernel
theorem dX4_addressOf_4 : decode cX4_addressOf 4 = .ok (.iload_n 3, 1) := by decide +kernel
theorem dX4_addressOf_5 : decode cX4_addressOf 5 = .ok (.bipush 32, 2) := by decide +kernel
theorem dX4_addressOf_7 : decode cX4_addressOf 7 = .ok (.if_icmp .ge 38, 3) := by decide +kernel
theorem dX4_addressOf_10 : decode cX4_addressOf 10 = .ok (.iload_n 2, 1) := by decide +kernel
theorem dX4_addressOf_11 : decode cX4_addressOf 11 = .ok (.invokestatic 166, 3) := by decide +kernel
theorem dX4_addressOf_14 : decode cX4_addressOf 14 = .ok (.ifCond .eq 31, 3) := by decide +kernel
theorem dX4_addressOf_17 : decode cX4_addressOf 17 = .ok (.aload_n 0, 1) := by decide +kernel
theorem dX4_addressOf_18 : decode cX4_addressOf 18 = .ok (.iload_n 2, 1) := by decide +kernel
theorem dX4_addressOf_19 : decode cX4_addressOf 19 = .ok (.invokestatic 169, 3) := by decide +kernel
theorem dX4_addressOf_22 : decode cX4_addressOf 22 = .ok (.invokevirtual 48, 3) := by decide +kernel
theorem dX4_addressOf_25 : decode cX4_addressOf 25 = .ok (.istore_n 2, 1) := by decide +kernel
theorem dX4_addressOf_26 : decode cX4_addressOf 26 = .ok (.aload_n 0, 1) := by decide +kernel
theorem dX4_addressOf_27 : decode cX4_addressOf 27 = .ok (.getfield 37, 3) := by decide +kernel
theorem dX4_addressOf_30 : decode cX4_addressOf 30 = .ok (.dup, 1) := by decide +kernel
theorem dX4_addressOf_31 : decode cX4_addressOf 31 = .ok (.getfield 120, 3) := by decide +kernel
theorem dX4_addressOf_34 : decode cX4_addressOf 34 = .ok (.iconst 1, 1) := by decide +kernel
theorem dX4_addressOf_35 : decode cX4_addressOf 35 = .ok (.iadd, 1) := by decide +kernel
theorem dX4_addressOf_36 : decode cX4_addressOf 36 = .ok (.putfield 120, 3) := by decide +kernel
theorem dX4_addressOf_39 : decode cX4_addressOf 39 = .ok (.iinc 3 1, 3) := by decide +kernel
theorem dX4_addressOf_42 : decode cX4_addressOf 42 = .ok (.goto (-38), 3) := by decide +kernel
theorem dX4_addressOf_45 : decode cX4_addressOf 45 = .ok (.iload_n 2, 1) := by decide +kernel
theorem dX4_addressOf_46 : decode cX4_addressOf 46 = .ok (.invokestatic 166, 3) := by decide +kernel
theorem dX4_addressOf_49 : decode cX4_addressOf 49 = .ok (.ifCond .eq 8, 3) := by decide +kernel
theorem dX4_addressOf_52 : decode cX4_addressOf 52 = .ok (.bipush (-9), 2) := by decide +kernel
theorem dX4_addressOf_54 : decode cX4_addressOf 54 = .ok (.goto 7, 3) := by decide +kernel
theorem dX4_addressOf_57 : decode cX4_addressOf 57 = .ok (.iload_n 2, 1) := by decide +kernel
theorem dX4_addressOf_58 : decode cX4_addressOf 58 = .ok (.invokestatic 169, 3) := by decide +kernel
theorem dX4_addressOf_61 : decode cX4_addressOf 61 = .ok (.ireturn, 1) := by decide +kernel
theorem dX4_step_0 : decode cX4_step 0 = .ok (.aload_n 0, 1) := by decide +kernel
theorem dX4_step_1 : decode cX4_step 1 = .ok (.getfield 77, 3) := by decide +kernel
theorem dX4_step_4 : decode cX4_step 4 = .ok (.iconst 1, 1) := by decide +kernel
theorem dX4_step_5 : decode cX4_step 5 = .ok (.if_icmp .ne 24, 3) := by decide +kernel
theorem dX4_step_8 : decode cX4_step 8 = .ok (.aload_n 0, 1) := by decide +kernel
theorem dX4_step_9 : decode cX4_step 9 = .ok (.getfield 74, 3) := by decide +kernel
theorem dX4_step_12 : decode cX4_step 12 = .ok (.iconst 1, 1) := by decide +kernel
theorem dX4_step_13 : decode cX4_step 13 = .ok (.if_icmp .ne 16, 3) := by decide +kernel
theorem dX4_step_16 : decode cX4_step 16 = .ok (.aload_n 0, 1) := by decide +kernel
theorem dX4_step_17 : decode cX4_step 17 = .ok (.getfield 80, 3) := by decide +kernel
theorem dX4_step_20 : decode cX4_step 20 = .ok (.ifCond .ne 9, 3) := by decide +kernel
theorem dX4_step_23 : decode cX4_step 23 = .ok (.aload_n 0, 1) := by decide +kernel
theorem dX4_step_24 : decode cX4_step 24 = .ok (.invokevirtual 191, 3) := by decide +kernel
theorem dX4_step_27 : decode cX4_step 27 = .ok (.iconst 0, 1) := by decide +kernel
theorem dX4_step_28 : decode cX4_step 28 = .ok (.ireturn, 1) := by decide +kernel
theorem dX4_step_29 : decode cX4_step 29 = .ok (.aload_n 0, 1) := by decide +kernel
theorem dX4_step_30 : decode cX4_step 30 = .ok (.aload_n 0, 1) := by decide +kernel
theorem dX4_step_31 : decode cX4_step 31 = .ok (.getfield 65, 3) := by decide +kernel
theorem dX4_step_34 : decode cX4_step 34 = .ok (.invokevirtual 48, 3) := by decide +kernel
theorem dX4_step_37 : decode cX4_step 37 = .ok (.istore_n 1, 1) := by decide +kernel
theorem dX4_step_38 : decode cX4_step 38 = .ok (.aload_n 0, 1) := by decide +kernel
theorem dX4_step_39 : decode cX4_step 39 = .ok (.invokevirtual 188, 3) := by decide +kernel
theorem dX4_step_42 : decode cX4_step 42 = .ok (.aload_n 0, 1) := by decide +kernel
theorem dX4_step_43 : decode cX4_step 43 = .ok (.iload_n 1, 1) := by decide +kernel
theorem dX4_step_44 : decode cX4_step 44 = .ok (.invokevirtual 194, 3) := by decide +kernel
theorem dX4_step_47 : decode cX4_step 47 = .ok (.istore_n 2, 1) := by decide +kernel
theorem dX4_step_48 : decode cX4_step 48 = .ok (.iload_n 2, 1) := by decide +kernel
theorem dX4_step_49 : decode cX4_step 49 = .ok (.bipush (-9), 2) := by decide +kernel
theorem dX4_step_51 : decode cX4_step 51 = .ok (.if_icmp .ne 7, 3) := by decide +kernel
theorem dX4_step_54 : decode cX4_step 54 = .ok (.iconst 2, 1) := by decide +kernel
theorem dX4_step_55 : decode cX4_step 55 = .ok (.goto 8, 3) := by decide +kernel
theorem dX4_step_58 : decode cX4_step 58 = .ok (.aload_n 0, 1) := by decide +kernel
theorem dX4_step_59 : decode cX4_step 59 = .ok (.iload_n 2, 1) := by decide +kernel
theorem dX4_step_60 : decode cX4_step 60 = .ok (.invokevirtual 197, 3) := by decide +kernel
theorem dX4_step_63 : decode cX4_step 63 = .ok (.ireturn, 1) := by decide +kernel
theorem dX4_beginBreak_0 : decode cX4_beginBreak 0 = .ok (.aload_n 0, 1) := by decide +kernel
theorem dX4_beginBreak_1 : decode cX4_beginBreak 1 = .ok (.iconst 0, 1) := by decide +kernel
theorem dX4_beginBreak_2 : decode cX4_beginBreak 2 = .ok (.aload_n 0, 1) := by decide +kernel
theorem dX4_beginBreak_3 : decode cX4_beginBreak 3 = .ok (.getfield 58, 3) := by decide +kernel
theorem dX4_beginBreak_6 : decode cX4_beginBreak 6 = .ok (.invokevirtual 52, 3) := by decide +kernel
theorem dX4_beginBreak_9 : decode cX4_beginBreak 9 = .ok (.aload_n 0, 1) := by decide +kernel
theorem dX4_beginBreak_10 : decode cX4_beginBreak 10 = .ok (.iconst 1, 1) := by decide +kernel
theorem dX4_beginBreak_11 : decode cX4_beginBreak 11 = .ok (.aload_n 0, 1) := by decide +kernel
theorem dX4_beginBreak_12 : decode cX4_beginBreak 12 = .ok (.invokevirtual 200, 3) := by decide +kernel
theorem dX4_beginBreak_15 : decode cX4_beginBreak 15 = .ok (.invokevirtual 52, 3) := by decide +kernel
theorem dX4_beginBreak_18 : decode cX4_beginBreak 18 = .ok (.aload_n 0, 1) := by decide +kernel
theorem dX4_beginBreak_19 : decode cX4_beginBreak 19 = .ok (.iconst 2, 1) := by decide +kernel
theorem dX4_beginBreak_20 : decode cX4_beginBreak 20 = .ok (.aload_n 0, 1) := by decide +kernel
theorem dX4_beginBreak_21 : decode cX4_beginBreak 21 = .ok (.getfield 62, 3) := by decide +kernel
theorem dX4_beginBreak_24 : decode cX4_beginBreak 24 = .ok (.invokevirtual 52, 3) := by decide +kernel
theorem dX4_beginBreak_27 : decode cX4_beginBreak 27 = .ok (.aload_n 0, 1) := by decide +kernel
theorem dX4_beginBreak_28 : decode cX4_beginBreak 28 = .ok (.iconst 3, 1) := by decide +kernel
theorem dX4_beginBreak_29 : decode cX4_beginBreak 29 = .ok (.putfield 65, 3) := by decide +kernel
theorem dX4_beginBreak_32 : decode cX4_beginBreak 32 = .ok (.aload_n 0, 1) := by decide +kernel
theorem dX4_beginBreak_33 : decode cX4_beginBreak 33 = .ok (.iconst 1, 1) := by decide +kernel
theorem dX4_beginBreak_34 : decode cX4_beginBreak 34 = .ok (.putfield 80, 3) := by decide +kernel
theorem dX4_beginBreak_37 : decode cX4_beginBreak 37 = .ok (.aload_n 0, 1) := by decide +kernel
theorem dX4_beginBreak_38 : decode cX4_beginBreak 38 = .ok (.iconst 0, 1) := by decide +kernel
theorem dX4_beginBreak_39 : decode cX4_beginBreak 39 = .ok (.putfield 77, 3) := by decide +kernel
theorem dX4_beginBreak_42 : decode cX4_beginBreak 42 = .ok (.aload_n 0, 1) := by decide +kernel
theorem dX4_beginBreak_43 : decode cX4_beginBreak 43 = .ok (.getfield 37, 3) := by decide +kernel
theorem dX4_beginBreak_46 : decode cX4_beginBreak 46 = .ok (.dup, 1) := by decide +kernel
theorem dX4_beginBreak_47 : decode cX4_beginBreak 47 = .ok (.getfield 117, 3) := by decide +kernel
theorem dX4_beginBreak_50 : decode cX4_beginBreak 50 = .ok (.iconst 1, 1) := by decide +kernel
theorem dX4_beginBreak_51 : decode cX4_beginBreak 51 = .ok (.iadd, 1) := by decide +kernel
theorem dX4_beginBreak_52 : decode cX4_beginBreak 52 = .ok (.putfield 117, 3) := by decide +kernel
theorem dX4_beginBreak_55 : decode cX4_beginBreak 55 = .ok (.return_, 1) := by decide +kernel

theorem dX4_someHolds_0 : decode cX4_someHolds 0 = .ok (.iload_n 1, 1) := by decide +kernel
theorem dX4_someHolds_1 : decode cX4_someHolds 1 = .ok (.bipush 64, 2) := by decide +kernel
theorem dX4_someHolds_3 : decode cX4_someHolds 3 = .ok (.iand, 1) := by decide +kernel
theorem dX4_someHolds_4 : decode cX4_someHolds 4 = .ok (.ifCond .eq 10, 3) := by decide +kernel
theorem dX4_someHolds_7 : decode cX4_someHolds 7 = .ok (.aload_n 0, 1) := by decide +kernel
theorem dX4_someHolds_8 : decode cX4_someHolds 8 = .ok (.getfield 58, 3) := by decide +kernel
theorem dX4_someHolds_11 : decode cX4_someHolds 11 = .ok (.ifCond .eq 103, 3) := by decide +kernel
theorem dX4_someHolds_14 : decode cX4_someHolds 14 = .ok (.iload_n 1, 1) := by decide +kernel
theorem dX4_someHolds_15 : decode cX4_someHolds 15 = .ok (.sipush 128, 3) := by decide +kernel
theorem dX4_someHolds_18 : decode cX4_someHolds 18 = .ok (.iand, 1) := by decide +kernel
theorem dX4_someHolds_19 : decode cX4_someHolds 19 = .ok (.ifCond .eq 13, 3) := by decide +kernel
theorem dX4_someHolds_22 : decode cX4_someHolds 22 = .ok (.aload_n 0, 1) := by decide +kernel
theorem dX4_someHolds_23 : decode cX4_someHolds 23 = .ok (.getfield 58, 3) := by decide +kernel
theorem dX4_someHolds_26 : decode cX4_someHolds 26 = .ok (.invokestatic 157, 3) := by decide +kernel
theorem dX4_someHolds_29 : decode cX4_someHolds 29 = .ok (.ifCond .eq 85, 3) := by decide +kernel
theorem dX4_someHolds_32 : decode cX4_someHolds 32 = .ok (.iload_n 1, 1) := by decide +kernel
theorem dX4_someHolds_33 : decode cX4_someHolds 33 = .ok (.sipush 256, 3) := by decide +kernel
theorem dX4_someHolds_36 : decode cX4_someHolds 36 = .ok (.iand, 1) := by decide +kernel
theorem dX4_someHolds_37 : decode cX4_someHolds 37 = .ok (.ifCond .eq 14, 3) := by decide +kernel
theorem dX4_someHolds_40 : decode cX4_someHolds 40 = .ok (.aload_n 0, 1) := by decide +kernel
theorem dX4_someHolds_41 : decode cX4_someHolds 41 = .ok (.getfield 58, 3) := by decide +kernel
theorem dX4_someHolds_44 : decode cX4_someHolds 44 = .ok (.invokestatic 157, 3) := by decide +kernel
theorem dX4_someHolds_47 : decode cX4_someHolds 47 = .ok (.iconst 1, 1) := by decide +kernel
theorem dX4_someHolds_48 : decode cX4_someHolds 48 = .ok (.if_icmp .eq 66, 3) := by decide +kernel
theorem dX4_someHolds_51 : decode cX4_someHolds 51 = .ok (.iload_n 1, 1) := by decide +kernel
theorem dX4_someHolds_52 : decode cX4_someHolds 52 = .ok (.sipush 512, 3) := by decide +kernel
theorem dX4_someHolds_55 : decode cX4_someHolds 55 = .ok (.iand, 1) := by decide +kernel
theorem dX4_someHolds_56 : decode cX4_someHolds 56 = .ok (.ifCond .eq 10, 3) := by decide +kernel
theorem dX4_someHolds_59 : decode cX4_someHolds 59 = .ok (.aload_n 0, 1) := by decide +kernel
theorem dX4_someHolds_60 : decode cX4_someHolds 60 = .ok (.getfield 68, 3) := by decide +kernel
theorem dX4_someHolds_63 : decode cX4_someHolds 63 = .ok (.ifCond .eq 51, 3) := by decide +kernel
theorem dX4_someHolds_66 : decode cX4_someHolds 66 = .ok (.iload_n 1, 1) := by decide +kernel
theorem dX4_someHolds_67 : decode cX4_someHolds 67 = .ok (.sipush 1024, 3) := by decide +kernel
theorem dX4_someHolds_70 : decode cX4_someHolds 70 = .ok (.iand, 1) := by decide +kernel
theorem dX4_someHolds_71 : decode cX4_someHolds 71 = .ok (.ifCond .eq 13, 3) := by decide +kernel
theorem dX4_someHolds_74 : decode cX4_someHolds 74 = .ok (.aload_n 0, 1) := by decide +kernel
theorem dX4_someHolds_75 : decode cX4_someHolds 75 = .ok (.getfield 62, 3) := by decide +kernel
theorem dX4_someHolds_78 : decode cX4_someHolds 78 = .ok (.invokestatic 157, 3) := by decide +kernel
theorem dX4_someHolds_81 : decode cX4_someHolds 81 = .ok (.ifCond .eq 33, 3) := by decide +kernel
theorem dX4_someHolds_84 : decode cX4_someHolds 84 = .ok (.aload_n 0, 1) := by decide +kernel
theorem dX4_someHolds_85 : decode cX4_someHolds 85 = .ok (.getfield 89, 3) := by decide +kernel
theorem dX4_someHolds_88 : decode cX4_someHolds 88 = .ok (.iload_n 1, 1) := by decide +kernel
theorem dX4_someHolds_89 : decode cX4_someHolds 89 = .ok (.iconst 3, 1) := by decide +kernel
theorem dX4_someHolds_90 : decode cX4_someHolds 90 = .ok (.ishr, 1) := by decide +kernel
theorem dX4_someHolds_91 : decode cX4_someHolds 91 = .ok (.bipush 7, 2) := by decide +kernel
theorem dX4_someHolds_93 : decode cX4_someHolds 93 = .ok (.iand, 1) := by decide +kernel
theorem dX4_someHolds_94 : decode cX4_someHolds 94 = .ok (.invokestatic 275, 3) := by decide +kernel
theorem dX4_someHolds_97 : decode cX4_someHolds 97 = .ok (.ifCond .ne 17, 3) := by decide +kernel
theorem dX4_someHolds_100 : decode cX4_someHolds 100 = .ok (.aload_n 0, 1) := by decide +kernel
theorem dX4_someHolds_101 : decode cX4_someHolds 101 = .ok (.getfield 71, 3) := by decide +kernel
theorem dX4_someHolds_104 : decode cX4_someHolds 104 = .ok (.iload_n 1, 1) := by decide +kernel
theorem dX4_someHolds_105 : decode cX4_someHolds 105 = .ok (.bipush 7, 2) := by decide +kernel
theorem dX4_someHolds_107 : decode cX4_someHolds 107 = .ok (.iand, 1) := by decide +kernel
theorem dX4_someHolds_108 : decode cX4_someHolds 108 = .ok (.invokestatic 275, 3) := by decide +kernel
theorem dX4_someHolds_111 : decode cX4_someHolds 111 = .ok (.ifCond .eq 7, 3) := by decide +kernel
theorem dX4_someHolds_114 : decode cX4_someHolds 114 = .ok (.iconst 1, 1) := by decide +kernel
theorem dX4_someHolds_115 : decode cX4_someHolds 115 = .ok (.goto 4, 3) := by decide +kernel
theorem dX4_someHolds_118 : decode cX4_someHolds 118 = .ok (.iconst 0, 1) := by decide +kernel
theorem dX4_someHolds_119 : decode cX4_someHolds 119 = .ok (.istore_n 2, 1) := by decide +kernel
theorem dX4_someHolds_120 : decode cX4_someHolds 120 = .ok (.iload_n 1, 1) := by decide +kernel
theorem dX4_someHolds_121 : decode cX4_someHolds 121 = .ok (.sipush 512, 3) := by decide +kernel
theorem dX4_someHolds_124 : decode cX4_someHolds 124 = .ok (.iand, 1) := by decide +kernel
theorem dX4_someHolds_125 : decode cX4_someHolds 125 = .ok (.ifCond .eq 8, 3) := by decide +kernel
theorem dX4_someHolds_128 : decode cX4_someHolds 128 = .ok (.aload_n 0, 1) := by decide +kernel
theorem dX4_someHolds_129 : decode cX4_someHolds 129 = .ok (.iconst 0, 1) := by decide +kernel
theorem dX4_someHolds_130 : decode cX4_someHolds 130 = .ok (.putfield 68, 3) := by decide +kernel
theorem dX4_someHolds_133 : decode cX4_someHolds 133 = .ok (.iload_n 2, 1) := by decide +kernel
theorem dX4_someHolds_134 : decode cX4_someHolds 134 = .ok (.ireturn, 1) := by decide +kernel
theorem dX4_isOff_0 : decode cX4_isOff 0 = .ok (.iload_n 1, 1) := by decide +kernel
theorem dX4_isOff_1 : decode cX4_isOff 1 = .ok (.ifCond .ne 5, 3) := by decide +kernel
theorem dX4_isOff_4 : decode cX4_isOff 4 = .ok (.iconst 0, 1) := by decide +kernel
theorem dX4_isOff_5 : decode cX4_isOff 5 = .ok (.ireturn, 1) := by decide +kernel
theorem dX4_isOff_6 : decode cX4_isOff 6 = .ok (.iload_n 1, 1) := by decide +kernel
theorem dX4_isOff_7 : decode cX4_isOff 7 = .ok (.bipush 7, 2) := by decide +kernel
theorem dX4_isOff_9 : decode cX4_isOff 9 = .ok (.if_icmp .ne 15, 3) := by decide +kernel
theorem dX4_isOff_12 : decode cX4_isOff 12 = .ok (.iload_n 0, 1) := by decide +kernel
theorem dX4_isOff_13 : decode cX4_isOff 13 = .ok (.ifCond .ne 7, 3) := by decide +kernel
theorem dX4_isOff_16 : decode cX4_isOff 16 = .ok (.iconst 1, 1) := by decide +kernel
theorem dX4_isOff_17 : decode cX4_isOff 17 = .ok (.goto 22, 3) := by decide +kernel
theorem dX4_isOff_20 : decode cX4_isOff 20 = .ok (.iconst 0, 1) := by decide +kernel
theorem dX4_isOff_21 : decode cX4_isOff 21 = .ok (.goto 18, 3) := by decide +kernel
theorem dX4_isOff_24 : decode cX4_isOff 24 = .ok (.iload_n 0, 1) := by decide +kernel
theorem dX4_isOff_25 : decode cX4_isOff 25 = .ok (.iload_n 1, 1) := by decide +kernel
theorem dX4_isOff_26 : decode cX4_isOff 26 = .ok (.iconst 1, 1) := by decide +kernel
theorem dX4_isOff_27 : decode cX4_isOff 27 = .ok (.isub, 1) := by decide +kernel
theorem dX4_isOff_28 : decode cX4_isOff 28 = .ok (.ishr, 1) := by decide +kernel
theorem dX4_isOff_29 : decode cX4_isOff 29 = .ok (.iconst 1, 1) := by decide +kernel
theorem dX4_isOff_30 : decode cX4_isOff 30 = .ok (.iand, 1) := by decide +kernel
theorem dX4_isOff_31 : decode cX4_isOff 31 = .ok (.ifCond .ne 7, 3) := by decide +kernel
theorem dX4_isOff_34 : decode cX4_isOff 34 = .ok (.iconst 1, 1) := by decide +kernel
theorem dX4_isOff_35 : decode cX4_isOff 35 = .ok (.goto 4, 3) := by decide +kernel
theorem dX4_isOff_38 : decode cX4_isOff 38 = .ok (.iconst 0, 1) := by decide +kernel
theorem dX4_isOff_39 : decode cX4_isOff 39 = .ok (.ireturn, 1) := by decide +kernel
theorem dX4_both_0 : decode cX4_both 0 = .ok (.aload_n 0, 1) := by decide +kernel
theorem dX4_both_1 : decode cX4_both 1 = .ok (.getfield 58, 3) := by decide +kernel
theorem dX4_both_4 : decode cX4_both 4 = .ok (.i2l, 1) := by decide +kernel
theorem dX4_both_5 : decode cX4_both 5 = .ok (.bipush 18, 2) := by decide +kernel
theorem dX4_both_7 : decode cX4_both 7 = .ok (.lshl, 1) := by decide +kernel
theorem dX4_both_8 : decode cX4_both 8 = .ok (.aload_n 0, 1) := by decide +kernel
theorem dX4_both_9 : decode cX4_both 9 = .ok (.getfield 62, 3) := by decide +kernel
theorem dX4_both_12 : decode cX4_both 12 = .ok (.i2l, 1) := by decide +kernel
theorem dX4_both_13 : decode cX4_both 13 = .ok (.lor, 1) := by decide +kernel
theorem dX4_both_14 : decode cX4_both 14 = .ok (.lreturn, 1) := by decide +kernel
theorem dX4_setBoth_0 : decode cX4_setBoth 0 = .ok (.aload_n 0, 1) := by decide +kernel
theorem dX4_setBoth_1 : decode cX4_setBoth 1 = .ok (.lload_n 1, 1) := by decide +kernel
theorem dX4_setBoth_2 : decode cX4_setBoth 2 = .ok (.bipush 18, 2) := by decide +kernel
theorem dX4_setBoth_4 : decode cX4_setBoth 4 = .ok (.lshr, 1) := by decide +kernel
theorem dX4_setBoth_5 : decode cX4_setBoth 5 = .ok (.ldc2_w 56, 3) := by decide +kernel
theorem dX4_setBoth_8 : decode cX4_setBoth 8 = .ok (.land, 1) := by decide +kernel
theorem dX4_setBoth_9 : decode cX4_setBoth 9 = .ok (.l2i, 1) := by decide +kernel
theorem dX4_setBoth_10 : decode cX4_setBoth 10 = .ok (.putfield 58, 3) := by decide +kernel
theorem dX4_setBoth_13 : decode cX4_setBoth 13 = .ok (.aload_n 0, 1) := by decide +kernel
theorem dX4_setBoth_14 : decode cX4_setBoth 14 = .ok (.lload_n 1, 1) := by decide +kernel
theorem dX4_setBoth_15 : decode cX4_setBoth 15 = .ok (.ldc2_w 56, 3) := by decide +kernel
theorem dX4_setBoth_18 : decode cX4_setBoth 18 = .ok (.land, 1) := by decide +kernel
theorem dX4_setBoth_19 : decode cX4_setBoth 19 = .ok (.l2i, 1) := by decide +kernel
theorem dX4_setBoth_20 : decode cX4_setBoth 20 = .ok (.putfield 62, 3) := by decide +kernel
theorem dX4_setBoth_23 : decode cX4_setBoth 23 = .ok (.return_, 1) := by decide +kernel
theorem dX4_shift_0 : decode cX4_shift 0 = .ok (.iload_n 1, 1) := by decide +kernel
theorem dX4_shift_1 : decode cX4_shift 1 = .ok (.iconst 2, 1) := by decide +kernel
theorem dX4_shift_2 : decode cX4_shift 2 = .ok (.ishr, 1) := by decide +kernel
theorem dX4_shift_3 : decode cX4_shift 3 = .ok (.istore_n 3, 1) := by decide +kernel
theorem dX4_shift_4 : decode cX4_shift 4 = .ok (.iload_n 1, 1) := by decide +kernel
theorem dX4_shift_5 : decode cX4_shift 5 = .ok (.iconst 3, 1) := by decide +kernel
theorem dX4_shift_6 : decode cX4_shift 6 = .ok (.iand, 1) := by decide +kernel
theorem dX4_shift_7 : decode cX4_shift 7 = .ok (.lookupswitch 65 #[(1, 25), (2, 45)], 25) := by decide +kernel
theorem dX4_shift_32 : decode cX4_shift 32 = .ok (.aload_n 0, 1) := by decide +kernel
theorem dX4_shift_33 : decode cX4_shift 33 = .ok (.aload_n 0, 1) := by decide +kernel
theorem dX4_shift_34 : decode cX4_shift 34 = .ok (.getfield 58, 3) := by decide +kernel
theorem dX4_shift_37 : decode cX4_shift 37 = .ok (.i2l, 1) := by decide +kernel
theorem dX4_shift_38 : decode cX4_shift 38 = .ok (.bipush 18, 2) := by decide +kernel
theorem dX4_shift_40 : decode cX4_shift 40 = .ok (.iload_n 3, 1) := by decide +kernel
theorem dX4_shift_41 : decode cX4_shift 41 = .ok (.iload_n 2, 1) := by decide +kernel
theorem dX4_shift_42 : decode cX4_shift 42 = .ok (.invokestatic 279, 3) := by decide +kernel
theorem dX4_shift_45 : decode cX4_shift 45 = .ok (.l2i, 1) := by decide +kernel
theorem dX4_shift_46 : decode cX4_shift 46 = .ok (.putfield 58, 3) := by decide +kernel
theorem dX4_shift_49 : decode cX4_shift 49 = .ok (.goto 38, 3) := by decide +kernel
theorem dX4_shift_52 : decode cX4_shift 52 = .ok (.aload_n 0, 1) := by decide +kernel
theorem dX4_shift_53 : decode cX4_shift 53 = .ok (.aload_n 0, 1) := by decide +kernel
theorem dX4_shift_54 : decode cX4_shift 54 = .ok (.getfield 62, 3) := by decide +kernel
theorem dX4_shift_57 : decode cX4_shift 57 = .ok (.i2l, 1) := by decide +kernel
theorem dX4_shift_58 : decode cX4_shift 58 = .ok (.bipush 18, 2) := by decide +kernel
theorem dX4_shift_60 : decode cX4_shift 60 = .ok (.iload_n 3, 1) := by decide +kernel
theorem dX4_shift_61 : decode cX4_shift 61 = .ok (.iload_n 2, 1) := by decide +kernel
theorem dX4_shift_62 : decode cX4_shift 62 = .ok (.invokestatic 279, 3) := by decide +kernel
theorem dX4_shift_65 : decode cX4_shift 65 = .ok (.l2i, 1) := by decide +kernel
theorem dX4_shift_66 : decode cX4_shift 66 = .ok (.putfield 62, 3) := by decide +kernel
theorem dX4_shift_69 : decode cX4_shift 69 = .ok (.goto 18, 3) := by decide +kernel
theorem dX4_shift_72 : decode cX4_shift 72 = .ok (.aload_n 0, 1) := by decide +kernel
theorem dX4_shift_73 : decode cX4_shift 73 = .ok (.aload_n 0, 1) := by decide +kernel
theorem dX4_shift_74 : decode cX4_shift 74 = .ok (.invokevirtual 267, 3) := by decide +kernel
theorem dX4_shift_77 : decode cX4_shift 77 = .ok (.bipush 36, 2) := by decide +kernel
theorem dX4_shift_79 : decode cX4_shift 79 = .ok (.iload_n 3, 1) := by decide +kernel
theorem dX4_shift_80 : decode cX4_shift 80 = .ok (.iload_n 2, 1) := by decide +kernel
theorem dX4_shift_81 : decode cX4_shift 81 = .ok (.invokestatic 279, 3) := by decide +kernel
theorem dX4_shift_84 : decode cX4_shift 84 = .ok (.invokevirtual 271, 3) := by decide +kernel
theorem dX4_shift_87 : decode cX4_shift 87 = .ok (.return_, 1) := by decide +kernel
theorem dX4_moved_0 : decode cX4_moved 0 = .ok (.lload_n 0, 1) := by decide +kernel
theorem dX4_moved_1 : decode cX4_moved 1 = .ok (.lstore 5, 2) := by decide +kernel
theorem dX4_moved_3 : decode cX4_moved 3 = .ok (.iconst 0, 1) := by decide +kernel
theorem dX4_moved_4 : decode cX4_moved 4 = .ok (.istore 7, 2) := by decide +kernel
theorem dX4_moved_6 : decode cX4_moved 6 = .ok (.iload 7, 2) := by decide +kernel
theorem dX4_moved_8 : decode cX4_moved 8 = .ok (.iload 4, 2) := by decide +kernel
theorem dX4_moved_10 : decode cX4_moved 10 = .ok (.if_icmp .ge 18, 3) := by decide +kernel
theorem dX4_moved_13 : decode cX4_moved 13 = .ok (.lload 5, 2) := by decide +kernel
theorem dX4_moved_15 : decode cX4_moved 15 = .ok (.iload_n 2, 1) := by decide +kernel
theorem dX4_moved_16 : decode cX4_moved 16 = .ok (.iload_n 3, 1) := by decide +kernel
theorem dX4_moved_17 : decode cX4_moved 17 = .ok (.invokestatic 283, 3) := by decide +kernel
theorem dX4_moved_20 : decode cX4_moved 20 = .ok (.lstore 5, 2) := by decide +kernel
theorem dX4_moved_22 : decode cX4_moved 22 = .ok (.iinc 7 1, 3) := by decide +kernel
theorem dX4_moved_25 : decode cX4_moved 25 = .ok (.goto (-19), 3) := by decide +kernel
theorem dX4_moved_28 : decode cX4_moved 28 = .ok (.lload 5, 2) := by decide +kernel
theorem dX4_moved_30 : decode cX4_moved 30 = .ok (.lreturn, 1) := by decide +kernel
theorem dX4_movedOnce_0 : decode cX4_movedOnce 0 = .ok (.lconst 1, 1) := by decide +kernel
theorem dX4_movedOnce_1 : decode cX4_movedOnce 1 = .ok (.iload_n 2, 1) := by decide +kernel
theorem dX4_movedOnce_2 : decode cX4_movedOnce 2 = .ok (.iconst 1, 1) := by decide +kernel
theorem dX4_movedOnce_3 : decode cX4_movedOnce 3 = .ok (.isub, 1) := by decide +kernel
theorem dX4_movedOnce_4 : decode cX4_movedOnce 4 = .ok (.lshl, 1) := by decide +kernel
theorem dX4_movedOnce_5 : decode cX4_movedOnce 5 = .ok (.lstore 4, 2) := by decide +kernel
theorem dX4_movedOnce_7 : decode cX4_movedOnce 7 = .ok (.lload 4, 2) := by decide +kernel
theorem dX4_movedOnce_9 : decode cX4_movedOnce 9 = .ok (.lconst 1, 1) := by decide +kernel
theorem dX4_movedOnce_10 : decode cX4_movedOnce 10 = .ok (.lsub, 1) := by decide +kernel
theorem dX4_movedOnce_11 : decode cX4_movedOnce 11 = .ok (.lstore 6, 2) := by decide +kernel
theorem dX4_movedOnce_13 : decode cX4_movedOnce 13 = .ok (.iload_n 3, 1) := by decide +kernel
theorem dX4_movedOnce_14 : decode cX4_movedOnce 14 = .ok (.tableswitch 69 0 2 #[26, 39, 57], 26) := by decide +kernel
theorem dX4_movedOnce_40 : decode cX4_movedOnce 40 = .ok (.lload_n 0, 1) := by decide +kernel
theorem dX4_movedOnce_41 : decode cX4_movedOnce 41 = .ok (.lload 6, 2) := by decide +kernel
theorem dX4_movedOnce_43 : decode cX4_movedOnce 43 = .ok (.land, 1) := by decide +kernel
theorem dX4_movedOnce_44 : decode cX4_movedOnce 44 = .ok (.iconst 1, 1) := by decide +kernel
theorem dX4_movedOnce_45 : decode cX4_movedOnce 45 = .ok (.lshl, 1) := by decide +kernel
theorem dX4_movedOnce_46 : decode cX4_movedOnce 46 = .ok (.lload_n 0, 1) := by decide +kernel
theorem dX4_movedOnce_47 : decode cX4_movedOnce 47 = .ok (.iload_n 2, 1) := by decide +kernel
theorem dX4_movedOnce_48 : decode cX4_movedOnce 48 = .ok (.iconst 1, 1) := by decide +kernel
theorem dX4_movedOnce_49 : decode cX4_movedOnce 49 = .ok (.isub, 1) := by decide +kernel
theorem dX4_movedOnce_50 : decode cX4_movedOnce 50 = .ok (.lshr, 1) := by decide +kernel
theorem dX4_movedOnce_51 : decode cX4_movedOnce 51 = .ok (.lor, 1) := by decide +kernel
theorem dX4_movedOnce_52 : decode cX4_movedOnce 52 = .ok (.lreturn, 1) := by decide +kernel
theorem dX4_movedOnce_53 : decode cX4_movedOnce 53 = .ok (.lload_n 0, 1) := by decide +kernel
theorem dX4_movedOnce_54 : decode cX4_movedOnce 54 = .ok (.lload 4, 2) := by decide +kernel
theorem dX4_movedOnce_56 : decode cX4_movedOnce 56 = .ok (.land, 1) := by decide +kernel
theorem dX4_movedOnce_57 : decode cX4_movedOnce 57 = .ok (.lload_n 0, 1) := by decide +kernel
theorem dX4_movedOnce_58 : decode cX4_movedOnce 58 = .ok (.iconst 1, 1) := by decide +kernel
theorem dX4_movedOnce_59 : decode cX4_movedOnce 59 = .ok (.lshl, 1) := by decide +kernel
theorem dX4_movedOnce_60 : decode cX4_movedOnce 60 = .ok (.lload 6, 2) := by decide +kernel
theorem dX4_movedOnce_62 : decode cX4_movedOnce 62 = .ok (.land, 1) := by decide +kernel
theorem dX4_movedOnce_63 : decode cX4_movedOnce 63 = .ok (.lor, 1) := by decide +kernel
theorem dX4_movedOnce_64 : decode cX4_movedOnce 64 = .ok (.lload_n 0, 1) := by decide +kernel
theorem dX4_movedOnce_65 : decode cX4_movedOnce 65 = .ok (.iload_n 2, 1) := by decide +kernel
theorem dX4_movedOnce_66 : decode cX4_movedOnce 66 = .ok (.iconst 1, 1) := by decide +kernel
theorem dX4_movedOnce_67 : decode cX4_movedOnce 67 = .ok (.isub, 1) := by decide +kernel
theorem dX4_movedOnce_68 : decode cX4_movedOnce 68 = .ok (.lshr, 1) := by decide +kernel
theorem dX4_movedOnce_69 : decode cX4_movedOnce 69 = .ok (.lor, 1) := by decide +kernel
theorem dX4_movedOnce_70 : decode cX4_movedOnce 70 = .ok (.lreturn, 1) := by decide +kernel
theorem dX4_movedOnce_71 : decode cX4_movedOnce 71 = .ok (.lload_n 0, 1) := by decide +kernel
theorem dX4_movedOnce_72 : decode cX4_movedOnce 72 = .ok (.iconst 1, 1) := by decide +kernel
theorem dX4_movedOnce_73 : decode cX4_movedOnce 73 = .ok (.lshr, 1) := by decide +kernel
theorem dX4_movedOnce_74 : decode cX4_movedOnce 74 = .ok (.lload_n 0, 1) := by decide +kernel
theorem dX4_movedOnce_75 : decode cX4_movedOnce 75 = .ok (.lconst 1, 1) := by decide +kernel
theorem dX4_movedOnce_76 : decode cX4_movedOnce 76 = .ok (.land, 1) := by decide +kernel
theorem dX4_movedOnce_77 : decode cX4_movedOnce 77 = .ok (.iload_n 2, 1) := by decide +kernel
theorem dX4_movedOnce_78 : decode cX4_movedOnce 78 = .ok (.iconst 1, 1) := by decide +kernel
theorem dX4_movedOnce_79 : decode cX4_movedOnce 79 = .ok (.isub, 1) := by decide +kernel
theorem dX4_movedOnce_80 : decode cX4_movedOnce 80 = .ok (.lshl, 1) := by decide +kernel
theorem dX4_movedOnce_81 : decode cX4_movedOnce 81 = .ok (.lor, 1) := by decide +kernel
theorem dX4_movedOnce_82 : decode cX4_movedOnce 82 = .ok (.lreturn, 1) := by decide +kernel
theorem dX4_movedOnce_83 : decode cX4_movedOnce 83 = .ok (.lload_n 0, 1) := by decide +kernel
theorem dX4_movedOnce_84 : decode cX4_movedOnce 84 = .ok (.lload 4, 2) := by decide +kernel
theorem dX4_movedOnce_86 : decode cX4_movedOnce 86 = .ok (.land, 1) := by decide +kernel
theorem dX4_movedOnce_87 : decode cX4_movedOnce 87 = .ok (.lload_n 0, 1) := by decide +kernel
theorem dX4_movedOnce_88 : decode cX4_movedOnce 88 = .ok (.iconst 1, 1) := by decide +kernel
theorem dX4_movedOnce_89 : decode cX4_movedOnce 89 = .ok (.lshr, 1) := by decide +kernel
theorem dX4_movedOnce_90 : decode cX4_movedOnce 90 = .ok (.lor, 1) := by decide +kernel
theorem dX4_movedOnce_91 : decode cX4_movedOnce 91 = .ok (.lreturn, 1) := by decide +kernel
theorem dX4_transfer_0 : decode cX4_transfer 0 = .ok (.iload_n 1, 1) := by decide +kernel
theorem dX4_transfer_1 : decode cX4_transfer 1 = .ok (.lookupswitch 151 #[(3, 59), (4, 76), (7, 90), (44, 127), (45, 135), (46, 143)], 59) := by decide +kernel
theorem dX4_transfer_60 : decode cX4_transfer 60 = .ok (.aload_n 0, 1) := by decide +kernel
theorem dX4_transfer_61 : decode cX4_transfer 61 = .ok (.getfield 23, 3) := by decide +kernel
theorem dX4_transfer_64 : decode cX4_transfer 64 = .ok (.aload_n 0, 1) := by decide +kernel
theorem dX4_transfer_65 : decode cX4_transfer 65 = .ok (.getfield 62, 3) := by decide +kernel
theorem dX4_transfer_68 : decode cX4_transfer 68 = .ok (.bipush 63, 2) := by decide +kernel
theorem dX4_transfer_70 : decode cX4_transfer 70 = .ok (.iand, 1) := by decide +kernel
theorem dX4_transfer_71 : decode cX4_transfer 71 = .ok (.invokevirtual 287, 3) := by decide +kernel
theorem dX4_transfer_74 : decode cX4_transfer 74 = .ok (.goto 78, 3) := by decide +kernel
theorem dX4_transfer_77 : decode cX4_transfer 77 = .ok (.aload_n 0, 1) := by decide +kernel
theorem dX4_transfer_78 : decode cX4_transfer 78 = .ok (.aload_n 0, 1) := by decide +kernel
theorem dX4_transfer_79 : decode cX4_transfer 79 = .ok (.getfield 16, 3) := by decide +kernel
theorem dX4_transfer_82 : decode cX4_transfer 82 = .ok (.invokevirtual 289, 3) := by decide +kernel
theorem dX4_transfer_85 : decode cX4_transfer 85 = .ok (.putfield 62, 3) := by decide +kernel
theorem dX4_transfer_88 : decode cX4_transfer 88 = .ok (.goto 64, 3) := by decide +kernel
theorem dX4_transfer_91 : decode cX4_transfer 91 = .ok (.aload_n 0, 1) := by decide +kernel
theorem dX4_transfer_92 : decode cX4_transfer 92 = .ok (.getfield 30, 3) := by decide +kernel
theorem dX4_transfer_95 : decode cX4_transfer 95 = .ok (.aload_n 0, 1) := by decide +kernel
theorem dX4_transfer_96 : decode cX4_transfer 96 = .ok (.getfield 58, 3) := by decide +kernel
theorem dX4_transfer_99 : decode cX4_transfer 99 = .ok (.bipush 8, 2) := by decide +kernel
theorem dX4_transfer_101 : decode cX4_transfer 101 = .ok (.ishr, 1) := by decide +kernel
theorem dX4_transfer_102 : decode cX4_transfer 102 = .ok (.aload_n 0, 1) := by decide +kernel
theorem dX4_transfer_103 : decode cX4_transfer 103 = .ok (.getfield 62, 3) := by decide +kernel
theorem dX4_transfer_106 : decode cX4_transfer 106 = .ok (.bipush 8, 2) := by decide +kernel
theorem dX4_transfer_108 : decode cX4_transfer 108 = .ok (.ishr, 1) := by decide +kernel
theorem dX4_transfer_109 : decode cX4_transfer 109 = .ok (.invokevirtual 292, 3) := by decide +kernel
theorem dX4_transfer_112 : decode cX4_transfer 112 = .ok (.aload_n 0, 1) := by decide +kernel
theorem dX4_transfer_113 : decode cX4_transfer 113 = .ok (.getfield 37, 3) := by decide +kernel
theorem dX4_transfer_116 : decode cX4_transfer 116 = .ok (.dup, 1) := by decide +kernel
theorem dX4_transfer_117 : decode cX4_transfer 117 = .ok (.getfield 123, 3) := by decide +kernel
theorem dX4_transfer_120 : decode cX4_transfer 120 = .ok (.iconst 1, 1) := by decide +kernel
theorem dX4_transfer_121 : decode cX4_transfer 121 = .ok (.iadd, 1) := by decide +kernel
theorem dX4_transfer_122 : decode cX4_transfer 122 = .ok (.putfield 123, 3) := by decide +kernel
theorem dX4_transfer_125 : decode cX4_transfer 125 = .ok (.goto 27, 3) := by decide +kernel
theorem dX4_transfer_128 : decode cX4_transfer 128 = .ok (.aload_n 0, 1) := by decide +kernel
theorem dX4_transfer_129 : decode cX4_transfer 129 = .ok (.iconst 0, 1) := by decide +kernel
theorem dX4_transfer_130 : decode cX4_transfer 130 = .ok (.putfield 74, 3) := by decide +kernel
theorem dX4_transfer_133 : decode cX4_transfer 133 = .ok (.goto 19, 3) := by decide +kernel
theorem dX4_transfer_136 : decode cX4_transfer 136 = .ok (.aload_n 0, 1) := by decide +kernel
theorem dX4_transfer_137 : decode cX4_transfer 137 = .ok (.iconst 1, 1) := by decide +kernel
theorem dX4_transfer_138 : decode cX4_transfer 138 = .ok (.putfield 74, 3) := by decide +kernel
theorem dX4_transfer_141 : decode cX4_transfer 141 = .ok (.goto 11, 3) := by decide +kernel
theorem dX4_transfer_144 : decode cX4_transfer 144 = .ok (.aload_n 0, 1) := by decide +kernel
theorem dX4_transfer_145 : decode cX4_transfer 145 = .ok (.iconst 0, 1) := by decide +kernel
theorem dX4_transfer_146 : decode cX4_transfer 146 = .ok (.putfield 77, 3) := by decide +kernel
theorem dX4_transfer_149 : decode cX4_transfer 149 = .ok (.goto 3, 3) := by decide +kernel
theorem dX4_transfer_152 : decode cX4_transfer 152 = .ok (.return_, 1) := by decide +kernel
theorem dX4_operate_0 : decode cX4_operate 0 = .ok (.iload_n 1, 1) := by decide +kernel
theorem dX4_operate_1 : decode cX4_operate 1 = .ok (.sipush 128, 3) := by decide +kernel
theorem dX4_operate_4 : decode cX4_operate 4 = .ok (.iand, 1) := by decide +kernel
theorem dX4_operate_5 : decode cX4_operate 5 = .ok (.ifCond .eq 8, 3) := by decide +kernel
theorem dX4_operate_8 : decode cX4_operate 8 = .ok (.aload_n 0, 1) := by decide +kernel
theorem dX4_operate_9 : decode cX4_operate 9 = .ok (.iconst 0, 1) := by decide +kernel
theorem dX4_operate_10 : decode cX4_operate 10 = .ok (.putfield 58, 3) := by decide +kernel
theorem dX4_operate_13 : decode cX4_operate 13 = .ok (.iload_n 1, 1) := by decide +kernel
theorem dX4_operate_14 : decode cX4_operate 14 = .ok (.sipush 2048, 3) := by decide +kernel
theorem dX4_operate_17 : decode cX4_operate 17 = .ok (.iand, 1) := by decide +kernel
theorem dX4_operate_18 : decode cX4_operate 18 = .ok (.ifCond .eq 8, 3) := by decide +kernel
theorem dX4_operate_21 : decode cX4_operate 21 = .ok (.aload_n 0, 1) := by decide +kernel
theorem dX4_operate_22 : decode cX4_operate 22 = .ok (.iconst 0, 1) := by decide +kernel
theorem dX4_operate_23 : decode cX4_operate 23 = .ok (.putfield 62, 3) := by decide +kernel
theorem dX4_operate_26 : decode cX4_operate 26 = .ok (.iload_n 1, 1) := by decide +kernel
theorem dX4_operate_27 : decode cX4_operate 27 = .ok (.sipush 1024, 3) := by decide +kernel
theorem dX4_operate_30 : decode cX4_operate 30 = .ok (.iand, 1) := by decide +kernel
theorem dX4_operate_31 : decode cX4_operate 31 = .ok (.ifCond .eq 16, 3) := by decide +kernel
theorem dX4_operate_34 : decode cX4_operate 34 = .ok (.aload_n 0, 1) := by decide +kernel
theorem dX4_operate_35 : decode cX4_operate 35 = .ok (.aload_n 0, 1) := by decide +kernel
theorem dX4_operate_36 : decode cX4_operate 36 = .ok (.getfield 58, 3) := by decide +kernel
theorem dX4_operate_39 : decode cX4_operate 39 = .ok (.aload_n 0, 1) := by decide +kernel
theorem dX4_operate_40 : decode cX4_operate 40 = .ok (.getfield 92, 3) := by decide +kernel
theorem dX4_operate_43 : decode cX4_operate 43 = .ok (.ior, 1) := by decide +kernel
theorem dX4_operate_44 : decode cX4_operate 44 = .ok (.putfield 58, 3) := by decide +kernel
theorem dX4_operate_47 : decode cX4_operate 47 = .ok (.iload_n 1, 1) := by decide +kernel
theorem dX4_operate_48 : decode cX4_operate 48 = .ok (.bipush 64, 2) := by decide +kernel
theorem dX4_operate_50 : decode cX4_operate 50 = .ok (.iand, 1) := by decide +kernel
theorem dX4_operate_51 : decode cX4_operate 51 = .ok (.ifCond .eq 16, 3) := by decide +kernel
theorem dX4_operate_54 : decode cX4_operate 54 = .ok (.aload_n 0, 1) := by decide +kernel
theorem dX4_operate_55 : decode cX4_operate 55 = .ok (.aload_n 0, 1) := by decide +kernel
theorem dX4_operate_56 : decode cX4_operate 56 = .ok (.getfield 58, 3) := by decide +kernel
theorem dX4_operate_59 : decode cX4_operate 59 = .ok (.aload_n 0, 1) := by decide +kernel
theorem dX4_operate_60 : decode cX4_operate 60 = .ok (.invokevirtual 200, 3) := by decide +kernel
theorem dX4_operate_63 : decode cX4_operate 63 = .ok (.ior, 1) := by decide +kernel
theorem dX4_operate_64 : decode cX4_operate 64 = .ok (.putfield 58, 3) := by decide +kernel
theorem dX4_operate_67 : decode cX4_operate 67 = .ok (.iload_n 1, 1) := by decide +kernel
theorem dX4_operate_68 : decode cX4_operate 68 = .ok (.sipush 512, 3) := by decide +kernel
theorem dX4_operate_71 : decode cX4_operate 71 = .ok (.iand, 1) := by decide +kernel
theorem dX4_operate_72 : decode cX4_operate 72 = .ok (.ifCond .eq 14, 3) := by decide +kernel
theorem dX4_operate_75 : decode cX4_operate 75 = .ok (.aload_n 0, 1) := by decide +kernel
theorem dX4_operate_76 : decode cX4_operate 76 = .ok (.aload_n 0, 1) := by decide +kernel
theorem dX4_operate_77 : decode cX4_operate 77 = .ok (.getfield 58, 3) := by decide +kernel
theorem dX4_operate_80 : decode cX4_operate 80 = .ok (.invokestatic 232, 3) := by decide +kernel
theorem dX4_operate_83 : decode cX4_operate 83 = .ok (.putfield 58, 3) := by decide +kernel
theorem dX4_operate_86 : decode cX4_operate 86 = .ok (.aload_n 0, 1) := by decide +kernel
theorem dX4_operate_87 : decode cX4_operate 87 = .ok (.iload_n 1, 1) := by decide +kernel
theorem dX4_operate_88 : decode cX4_operate 88 = .ok (.bipush 7, 2) := by decide +kernel
theorem dX4_operate_90 : decode cX4_operate 90 = .ok (.iand, 1) := by decide +kernel
theorem dX4_operate_91 : decode cX4_operate 91 = .ok (.iload_n 1, 1) := by decide +kernel
theorem dX4_operate_92 : decode cX4_operate 92 = .ok (.bipush 8, 2) := by decide +kernel
theorem dX4_operate_94 : decode cX4_operate 94 = .ok (.iand, 1) := by decide +kernel
theorem dX4_operate_95 : decode cX4_operate 95 = .ok (.ifCond .eq 7, 3) := by decide +kernel
theorem dX4_operate_98 : decode cX4_operate 98 = .ok (.iconst 1, 1) := by decide +kernel
theorem dX4_operate_99 : decode cX4_operate 99 = .ok (.goto 4, 3) := by decide +kernel
theorem dX4_operate_102 : decode cX4_operate 102 = .ok (.iconst 0, 1) := by decide +kernel
theorem dX4_operate_103 : decode cX4_operate 103 = .ok (.invokevirtual 295, 3) := by decide +kernel
theorem dX4_operate_106 : decode cX4_operate 106 = .ok (.iload_n 1, 1) := by decide +kernel
theorem dX4_operate_107 : decode cX4_operate 107 = .ok (.sipush 256, 3) := by decide +kernel
theorem dX4_operate_110 : decode cX4_operate 110 = .ok (.iand, 1) := by decide +kernel
theorem dX4_operate_111 : decode cX4_operate 111 = .ok (.ifCond .eq 7, 3) := by decide +kernel
theorem dX4_operate_114 : decode cX4_operate 114 = .ok (.iconst 1, 1) := by decide +kernel
theorem dX4_operate_115 : decode cX4_operate 115 = .ok (.goto 4, 3) := by decide +kernel
theorem dX4_operate_118 : decode cX4_operate 118 = .ok (.iconst 0, 1) := by decide +kernel
theorem dX4_operate_119 : decode cX4_operate 119 = .ok (.ireturn, 1) := by decide +kernel
theorem dX4_setFlags_0 : decode cX4_setFlags 0 = .ok (.iload_n 1, 1) := by decide +kernel
theorem dX4_setFlags_1 : decode cX4_setFlags 1 = .ok (.ifCond .ne 4, 3) := by decide +kernel
theorem dX4_setFlags_4 : decode cX4_setFlags 4 = .ok (.return_, 1) := by decide +kernel
theorem dX4_setFlags_5 : decode cX4_setFlags 5 = .ok (.iload_n 1, 1) := by decide +kernel
theorem dX4_setFlags_6 : decode cX4_setFlags 6 = .ok (.bipush 7, 2) := by decide +kernel
theorem dX4_setFlags_8 : decode cX4_setFlags 8 = .ok (.if_icmp .ne 8, 3) := by decide +kernel
theorem dX4_setFlags_11 : decode cX4_setFlags 11 = .ok (.bipush 63, 2) := by decide +kernel
theorem dX4_setFlags_13 : decode cX4_setFlags 13 = .ok (.goto 8, 3) := by decide +kernel
theorem dX4_setFlags_16 : decode cX4_setFlags 16 = .ok (.iconst 1, 1) := by decide +kernel
theorem dX4_setFlags_17 : decode cX4_setFlags 17 = .ok (.iload_n 1, 1) := by decide +kernel
theorem dX4_setFlags_18 : decode cX4_setFlags 18 = .ok (.iconst 1, 1) := by decide +kernel
theorem dX4_setFlags_19 : decode cX4_setFlags 19 = .ok (.isub, 1) := by decide +kernel
theorem dX4_setFlags_20 : decode cX4_setFlags 20 = .ok (.ishl, 1) := by decide +kernel
theorem dX4_setFlags_21 : decode cX4_setFlags 21 = .ok (.istore_n 3, 1) := by decide +kernel
theorem dX4_setFlags_22 : decode cX4_setFlags 22 = .ok (.aload_n 0, 1) := by decide +kernel
theorem dX4_setFlags_23 : decode cX4_setFlags 23 = .ok (.iload_n 2, 1) := by decide +kernel
theorem dX4_setFlags_24 : decode cX4_setFlags 24 = .ok (.ifCond .eq 12, 3) := by decide +kernel
theorem dX4_setFlags_27 : decode cX4_setFlags 27 = .ok (.aload_n 0, 1) := by decide +kernel
theorem dX4_setFlags_28 : decode cX4_setFlags 28 = .ok (.getfield 71, 3) := by decide +kernel
theorem dX4_setFlags_31 : decode cX4_setFlags 31 = .ok (.iload_n 3, 1) := by decide +kernel
theorem dX4_setFlags_32 : decode cX4_setFlags 32 = .ok (.ior, 1) := by decide +kernel
theorem dX4_setFlags_33 : decode cX4_setFlags 33 = .ok (.goto 11, 3) := by decide +kernel
theorem dX4_setFlags_36 : decode cX4_setFlags 36 = .ok (.aload_n 0, 1) := by decide +kernel
theorem dX4_setFlags_37 : decode cX4_setFlags 37 = .ok (.getfield 71, 3) := by decide +kernel
theorem dX4_setFlags_40 : decode cX4_setFlags 40 = .ok (.iload_n 3, 1) := by decide +kernel
theorem dX4_setFlags_41 : decode cX4_setFlags 41 = .ok (.iconst (-1), 1) := by decide +kernel
theorem dX4_setFlags_42 : decode cX4_setFlags 42 = .ok (.ixor, 1) := by decide +kernel
theorem dX4_setFlags_43 : decode cX4_setFlags 43 = .ok (.iand, 1) := by decide +kernel
theorem dX4_setFlags_44 : decode cX4_setFlags 44 = .ok (.putfield 71, 3) := by decide +kernel
theorem dX4_setFlags_47 : decode cX4_setFlags 47 = .ok (.return_, 1) := by decide +kernel
theorem dX5_init_0 : decode cX5_init 0 = .ok (.aload_n 0, 1) := by decide +kernel
theorem dX5_init_1 : decode cX5_init 1 = .ok (.invokespecial 1, 3) := by decide +kernel
theorem dX5_init_4 : decode cX5_init 4 = .ok (.aload_n 0, 1) := by decide +kernel
theorem dX5_init_5 : decode cX5_init 5 = .ok (.sipush 4096, 3) := by decide +kernel
theorem dX5_init_8 : decode cX5_init 8 = .ok (.newarray .int, 2) := by decide +kernel
theorem dX5_init_10 : decode cX5_init 10 = .ok (.putfield 7, 3) := by decide +kernel
theorem dX5_init_13 : decode cX5_init 13 = .ok (.aload_n 0, 1) := by decide +kernel
theorem dX5_init_14 : decode cX5_init 14 = .ok (.bipush 100, 2) := by decide +kernel
theorem dX5_init_16 : decode cX5_init 16 = .ok (.newarray .int, 2) := by decide +kernel
theorem dX5_init_18 : decode cX5_init 18 = .ok (.putfield 13, 3) := by decide +kernel
theorem dX5_init_21 : decode cX5_init 21 = .ok (.aload_n 0, 1) := by decide +kernel
theorem dX5_init_22 : decode cX5_init 22 = .ok (.bipush 64, 2) := by decide +kernel
theorem dX5_init_24 : decode cX5_init 24 = .ok (.newarray .int, 2) := by decide +kernel
theorem dX5_init_26 : decode cX5_init 26 = .ok (.putfield 16, 3) := by decide +kernel
theorem dX5_init_29 : decode cX5_init 29 = .ok (.aload_n 0, 1) := by decide +kernel
theorem dX5_init_30 : decode cX5_init 30 = .ok (.bipush 64, 2) := by decide +kernel
theorem dX5_init_32 : decode cX5_init 32 = .ok (.newarray .int, 2) := by decide +kernel
theorem dX5_init_34 : decode cX5_init 34 = .ok (.putfield 19, 3) := by decide +kernel
theorem dX5_init_37 : decode cX5_init 37 = .ok (.aload_n 0, 1) := by decide +kernel
theorem dX5_init_38 : decode cX5_init 38 = .ok (.bipush 64, 2) := by decide +kernel
theorem dX5_init_40 : decode cX5_init 40 = .ok (.newarray .int, 2) := by decide +kernel
theorem dX5_init_42 : decode cX5_init 42 = .ok (.putfield 22, 3) := by decide +kernel
theorem dX5_init_45 : decode cX5_init 45 = .ok (.aload_n 0, 1) := by decide +kernel
theorem dX5_init_46 : decode cX5_init 46 = .ok (.bipush 8, 2) := by decide +kernel
theorem dX5_init_48 : decode cX5_init 48 = .ok (.newarray .int, 2) := by decide +kernel
theorem dX5_init_50 : decode cX5_init 50 = .ok (.putfield 25, 3) := by decide +kernel
theorem dX5_init_53 : decode cX5_init 53 = .ok (.aload_n 0, 1) := by decide +kernel
theorem dX5_init_54 : decode cX5_init 54 = .ok (.getfield 25, 3) := by decide +kernel
theorem dX5_init_57 : decode cX5_init 57 = .ok (.bipush 6, 2) := by decide +kernel
theorem dX5_init_59 : decode cX5_init 59 = .ok (.bipush (-9), 2) := by decide +kernel
theorem dX5_init_61 : decode cX5_init 61 = .ok (.iastore, 1) := by decide +kernel
theorem dX5_init_62 : decode cX5_init 62 = .ok (.return_, 1) := by decide +kernel
theorem dX5_in_0 : decode cX5_in 0 = .ok (.iload_n 0, 1) := by decide +kernel
theorem dX5_in_1 : decode cX5_in 1 = .ok (.iload_n 1, 1) := by decide +kernel
theorem dX5_in_2 : decode cX5_in 2 = .ok (.if_icmp .lt 12, 3) := by decide +kernel
theorem dX5_in_5 : decode cX5_in 5 = .ok (.iload_n 0, 1) := by decide +kernel
theorem dX5_in_6 : decode cX5_in 6 = .ok (.iload_n 2, 1) := by decide +kernel
theorem dX5_in_7 : decode cX5_in 7 = .ok (.if_icmp .gt 7, 3) := by decide +kernel
theorem dX5_in_10 : decode cX5_in 10 = .ok (.iconst 1, 1) := by decide +kernel
theorem dX5_in_11 : decode cX5_in 11 = .ok (.goto 4, 3) := by decide +kernel
theorem dX5_in_14 : decode cX5_in 14 = .ok (.iconst 0, 1) := by decide +kernel
theorem dX5_in_15 : decode cX5_in 15 = .ok (.ireturn, 1) := by decide +kernel
theorem dX5_put_0 : decode cX5_put 0 = .ok (.iload_n 1, 1) := by decide +kernel
theorem dX5_put_1 : decode cX5_put 1 = .ok (.iconst 0, 1) := by decide +kernel
theorem dX5_put_2 : decode cX5_put 2 = .ok (.sipush 4095, 3) := by decide +kernel
theorem dX5_put_5 : decode cX5_put 5 = .ok (.invokestatic 28, 3) := by decide +kernel
theorem dX5_put_8 : decode cX5_put 8 = .ok (.ifCond .eq 13, 3) := by decide +kernel
theorem dX5_put_11 : decode cX5_put 11 = .ok (.iload_n 2, 1) := by decide +kernel
theorem dX5_put_12 : decode cX5_put 12 = .ok (.iconst 0, 1) := by decide +kernel
theorem dX5_put_13 : decode cX5_put 13 = .ok (.ldc 32, 2) := by decide +kernel
theorem dX5_put_15 : decode cX5_put 15 = .ok (.invokestatic 28, 3) := by decide +kernel
theorem dX5_put_18 : decode cX5_put 18 = .ok (.ifCond .ne 5, 3) := by decide +kernel
theorem dX5_put_21 : decode cX5_put 21 = .ok (.iconst (-1), 1) := by decide +kernel
theorem dX5_put_22 : decode cX5_put 22 = .ok (.ireturn, 1) := by decide +kernel
theorem dX5_put_23 : decode cX5_put 23 = .ok (.aload_n 0, 1) := by decide +kernel
theorem dX5_put_24 : decode cX5_put 24 = .ok (.getfield 7, 3) := by decide +kernel
theorem dX5_put_27 : decode cX5_put 27 = .ok (.iload_n 1, 1) := by decide +kernel
theorem dX5_put_28 : decode cX5_put 28 = .ok (.iaload, 1) := by decide +kernel
theorem dX5_put_29 : decode cX5_put 29 = .ok (.istore_n 3, 1) := by decide +kernel
theorem dX5_put_30 : decode cX5_put 30 = .ok (.aload_n 0, 1) := by decide +kernel
theorem dX5_put_31 : decode cX5_put 31 = .ok (.getfield 7, 3) := by decide +kernel
theorem dX5_put_34 : decode cX5_put 34 = .ok (.iload_n 1, 1) := by decide +kernel
theorem dX5_put_35 : decode cX5_put 35 = .ok (.iload_n 2, 1) := by decide +kernel
theorem dX5_put_36 : decode cX5_put 36 = .ok (.iastore, 1) := by decide +kernel
theorem dX5_put_37 : decode cX5_put 37 = .ok (.iload_n 3, 1) := by decide +kernel
theorem dX5_put_38 : decode cX5_put 38 = .ok (.ireturn, 1) := by decide +kernel
theorem dX5_core_0 : decode cX5_core 0 = .ok (.iload_n 1, 1) := by decide +kernel
theorem dX5_core_1 : decode cX5_core 1 = .ok (.iconst 0, 1) := by decide +kernel
theorem dX5_core_2 : decode cX5_core 2 = .ok (.sipush 4095, 3) := by decide +kernel
theorem dX5_core_5 : decode cX5_core 5 = .ok (.invokestatic 28, 3) := by decide +kernel
theorem dX5_core_8 : decode cX5_core 8 = .ok (.ifCond .eq 12, 3) := by decide +kernel
theorem dX5_core_11 : decode cX5_core 11 = .ok (.aload_n 0, 1) := by decide +kernel
theorem dX5_core_12 : decode cX5_core 12 = .ok (.getfield 7, 3) := by decide +kernel
theorem dX5_core_15 : decode cX5_core 15 = .ok (.iload_n 1, 1) := by decide +kernel
theorem dX5_core_16 : decode cX5_core 16 = .ok (.iaload, 1) := by decide +kernel
theorem dX5_core_17 : decode cX5_core 17 = .ok (.goto 4, 3) := by decide +kernel
theorem dX5_core_20 : decode cX5_core 20 = .ok (.iconst (-1), 1) := by decide +kernel
theorem dX5_core_21 : decode cX5_core 21 = .ok (.ireturn, 1) := by decide +kernel

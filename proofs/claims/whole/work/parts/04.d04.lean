theorem dX5_load_0 : decode cX5_load 0 = .ok (.iload_n 1, 1) := by decide +kernel
theorem dX5_load_1 : decode cX5_load 1 = .ok (.iconst 0, 1) := by decide +kernel
theorem dX5_load_2 : decode cX5_load 2 = .ok (.sipush 4095, 3) := by decide +kernel
theorem dX5_load_5 : decode cX5_load 5 = .ok (.invokestatic 28, 3) := by decide +kernel
theorem dX5_load_8 : decode cX5_load 8 = .ok (.ifCond .eq 25, 3) := by decide +kernel
theorem dX5_load_11 : decode cX5_load 11 = .ok (.iload 4, 2) := by decide +kernel
theorem dX5_load_13 : decode cX5_load 13 = .ok (.iconst 1, 1) := by decide +kernel
theorem dX5_load_14 : decode cX5_load 14 = .ok (.iconst 3, 1) := by decide +kernel
theorem dX5_load_15 : decode cX5_load 15 = .ok (.invokestatic 28, 3) := by decide +kernel
theorem dX5_load_18 : decode cX5_load 18 = .ok (.ifCond .eq 15, 3) := by decide +kernel
theorem dX5_load_21 : decode cX5_load 21 = .ok (.lload_n 2, 1) := by decide +kernel
theorem dX5_load_22 : decode cX5_load 22 = .ok (.bipush 18, 2) := by decide +kernel
theorem dX5_load_24 : decode cX5_load 24 = .ok (.iload 4, 2) := by decide +kernel
theorem dX5_load_26 : decode cX5_load 26 = .ok (.imul, 1) := by decide +kernel
theorem dX5_load_27 : decode cX5_load 27 = .ok (.lshr, 1) := by decide +kernel
theorem dX5_load_28 : decode cX5_load 28 = .ok (.lconst 0, 1) := by decide +kernel
theorem dX5_load_29 : decode cX5_load 29 = .ok (.lcmp, 1) := by decide +kernel
theorem dX5_load_30 : decode cX5_load 30 = .ok (.ifCond .eq 5, 3) := by decide +kernel
theorem dX5_load_33 : decode cX5_load 33 = .ok (.iconst (-1), 1) := by decide +kernel
theorem dX5_load_34 : decode cX5_load 34 = .ok (.ireturn, 1) := by decide +kernel
theorem dX5_load_35 : decode cX5_load 35 = .ok (.iconst 0, 1) := by decide +kernel
theorem dX5_load_36 : decode cX5_load 36 = .ok (.istore 5, 2) := by decide +kernel
theorem dX5_load_38 : decode cX5_load 38 = .ok (.iload 5, 2) := by decide +kernel
theorem dX5_load_40 : decode cX5_load 40 = .ok (.iload 4, 2) := by decide +kernel
theorem dX5_load_42 : decode cX5_load 42 = .ok (.if_icmp .ge 38, 3) := by decide +kernel
theorem dX5_load_45 : decode cX5_load 45 = .ok (.aload_n 0, 1) := by decide +kernel
theorem dX5_load_46 : decode cX5_load 46 = .ok (.getfield 7, 3) := by decide +kernel
theorem dX5_load_49 : decode cX5_load 49 = .ok (.iload_n 1, 1) := by decide +kernel
theorem dX5_load_50 : decode cX5_load 50 = .ok (.iload 5, 2) := by decide +kernel
theorem dX5_load_52 : decode cX5_load 52 = .ok (.iadd, 1) := by decide +kernel
theorem dX5_load_53 : decode cX5_load 53 = .ok (.sipush 4095, 3) := by decide +kernel
theorem dX5_load_56 : decode cX5_load 56 = .ok (.iand, 1) := by decide +kernel
theorem dX5_load_57 : decode cX5_load 57 = .ok (.lload_n 2, 1) := by decide +kernel
theorem dX5_load_58 : decode cX5_load 58 = .ok (.bipush 18, 2) := by decide +kernel
theorem dX5_load_60 : decode cX5_load 60 = .ok (.iload 4, 2) := by decide +kernel
theorem dX5_load_62 : decode cX5_load 62 = .ok (.iconst 1, 1) := by decide +kernel
theorem dX5_load_63 : decode cX5_load 63 = .ok (.isub, 1) := by decide +kernel
theorem dX5_load_64 : decode cX5_load 64 = .ok (.iload 5, 2) := by decide +kernel
theorem dX5_load_66 : decode cX5_load 66 = .ok (.isub, 1) := by decide +kernel
theorem dX5_load_67 : decode cX5_load 67 = .ok (.imul, 1) := by decide +kernel
theorem dX5_load_68 : decode cX5_load 68 = .ok (.lshr, 1) := by decide +kernel
theorem dX5_load_69 : decode cX5_load 69 = .ok (.l2i, 1) := by decide +kernel
theorem dX5_load_70 : decode cX5_load 70 = .ok (.ldc 32, 2) := by decide +kernel
theorem dX5_load_72 : decode cX5_load 72 = .ok (.iand, 1) := by decide +kernel
theorem dX5_load_73 : decode cX5_load 73 = .ok (.iastore, 1) := by decide +kernel
theorem dX5_load_74 : decode cX5_load 74 = .ok (.iinc 5 1, 3) := by decide +kernel
theorem dX5_load_77 : decode cX5_load 77 = .ok (.goto (-39), 3) := by decide +kernel
theorem dX5_load_80 : decode cX5_load 80 = .ok (.iload 4, 2) := by decide +kernel
theorem dX5_load_82 : decode cX5_load 82 = .ok (.ireturn, 1) := by decide +kernel
theorem dX5_told_0 : decode cX5_told 0 = .ok (.iload_n 1, 1) := by decide +kernel
theorem dX5_told_1 : decode cX5_told 1 = .ok (.tableswitch 111 0 7 #[47, 52, 57, 62, 67, 72, 85, 98], 47) := by decide +kernel
theorem dX5_told_48 : decode cX5_told 48 = .ok (.aload_n 0, 1) := by decide +kernel
theorem dX5_told_49 : decode cX5_told 49 = .ok (.getfield 33, 3) := by decide +kernel
theorem dX5_told_52 : decode cX5_told 52 = .ok (.ireturn, 1) := by decide +kernel
theorem dX5_told_53 : decode cX5_told 53 = .ok (.aload_n 0, 1) := by decide +kernel
theorem dX5_told_54 : decode cX5_told 54 = .ok (.getfield 37, 3) := by decide +kernel
theorem dX5_told_57 : decode cX5_told 57 = .ok (.ireturn, 1) := by decide +kernel
theorem dX5_told_58 : decode cX5_told 58 = .ok (.aload_n 0, 1) := by decide +kernel
theorem dX5_told_59 : decode cX5_told 59 = .ok (.getfield 40, 3) := by decide +kernel
theorem dX5_told_62 : decode cX5_told 62 = .ok (.ireturn, 1) := by decide +kernel
theorem dX5_told_63 : decode cX5_told 63 = .ok (.aload_n 0, 1) := by decide +kernel
theorem dX5_told_64 : decode cX5_told 64 = .ok (.getfield 43, 3) := by decide +kernel
theorem dX5_told_67 : decode cX5_told 67 = .ok (.ireturn, 1) := by decide +kernel
theorem dX5_told_68 : decode cX5_told 68 = .ok (.aload_n 0, 1) := by decide +kernel
theorem dX5_told_69 : decode cX5_told 69 = .ok (.getfield 46, 3) := by decide +kernel
theorem dX5_told_72 : decode cX5_told 72 = .ok (.ireturn, 1) := by decide +kernel
theorem dX5_told_73 : decode cX5_told 73 = .ok (.aload_n 0, 1) := by decide +kernel
theorem dX5_told_74 : decode cX5_told 74 = .ok (.getfield 49, 3) := by decide +kernel
theorem dX5_told_77 : decode cX5_told 77 = .ok (.ifCond .eq 7, 3) := by decide +kernel
theorem dX5_told_80 : decode cX5_told 80 = .ok (.iconst 1, 1) := by decide +kernel
theorem dX5_told_81 : decode cX5_told 81 = .ok (.goto 4, 3) := by decide +kernel
theorem dX5_told_84 : decode cX5_told 84 = .ok (.iconst 0, 1) := by decide +kernel
theorem dX5_told_85 : decode cX5_told 85 = .ok (.ireturn, 1) := by decide +kernel
theorem dX5_told_86 : decode cX5_told 86 = .ok (.aload_n 0, 1) := by decide +kernel
theorem dX5_told_87 : decode cX5_told 87 = .ok (.getfield 53, 3) := by decide +kernel
theorem dX5_told_90 : decode cX5_told 90 = .ok (.ifCond .eq 7, 3) := by decide +kernel
theorem dX5_told_93 : decode cX5_told 93 = .ok (.iconst 1, 1) := by decide +kernel
theorem dX5_told_94 : decode cX5_told 94 = .ok (.goto 4, 3) := by decide +kernel
theorem dX5_told_97 : decode cX5_told 97 = .ok (.iconst 0, 1) := by decide +kernel
theorem dX5_told_98 : decode cX5_told 98 = .ok (.ireturn, 1) := by decide +kernel
theorem dX5_told_99 : decode cX5_told 99 = .ok (.aload_n 0, 1) := by decide +kernel
theorem dX5_told_100 : decode cX5_told 100 = .ok (.getfield 56, 3) := by decide +kernel
theorem dX5_told_103 : decode cX5_told 103 = .ok (.ifCond .eq 7, 3) := by decide +kernel
theorem dX5_told_106 : decode cX5_told 106 = .ok (.iconst 1, 1) := by decide +kernel
theorem dX5_told_107 : decode cX5_told 107 = .ok (.goto 4, 3) := by decide +kernel
theorem dX5_told_110 : decode cX5_told 110 = .ok (.iconst 0, 1) := by decide +kernel
theorem dX5_told_111 : decode cX5_told 111 = .ok (.ireturn, 1) := by decide +kernel
theorem dX5_told_112 : decode cX5_told 112 = .ok (.iconst (-1), 1) := by decide +kernel
theorem dX5_told_113 : decode cX5_told 113 = .ok (.ireturn, 1) := by decide +kernel
theorem dX5_set_0 : decode cX5_set 0 = .ok (.iload_n 1, 1) := by decide +kernel
theorem dX5_set_1 : decode cX5_set 1 = .ok (.iconst 2, 1) := by decide +kernel
theorem dX5_set_2 : decode cX5_set 2 = .ok (.if_icmp .ge 8, 3) := by decide +kernel
theorem dX5_set_5 : decode cX5_set 5 = .ok (.ldc 32, 2) := by decide +kernel
theorem dX5_set_7 : decode cX5_set 7 = .ok (.goto 25, 3) := by decide +kernel
theorem dX5_set_10 : decode cX5_set 10 = .ok (.iload_n 1, 1) := by decide +kernel
theorem dX5_set_11 : decode cX5_set 11 = .ok (.iconst 2, 1) := by decide +kernel
theorem dX5_set_12 : decode cX5_set 12 = .ok (.if_icmp .ne 9, 3) := by decide +kernel
theorem dX5_set_15 : decode cX5_set 15 = .ok (.sipush 4095, 3) := by decide +kernel
theorem dX5_set_18 : decode cX5_set 18 = .ok (.goto 14, 3) := by decide +kernel
theorem dX5_set_21 : decode cX5_set 21 = .ok (.iload_n 1, 1) := by decide +kernel
theorem dX5_set_22 : decode cX5_set 22 = .ok (.iconst 4, 1) := by decide +kernel
theorem dX5_set_23 : decode cX5_set 23 = .ok (.if_icmp .ne 8, 3) := by decide +kernel
theorem dX5_set_26 : decode cX5_set 26 = .ok (.bipush 63, 2) := by decide +kernel
theorem dX5_set_28 : decode cX5_set 28 = .ok (.goto 4, 3) := by decide +kernel
theorem dX5_set_31 : decode cX5_set 31 = .ok (.iconst 1, 1) := by decide +kernel
theorem dX5_set_32 : decode cX5_set 32 = .ok (.istore_n 3, 1) := by decide +kernel
theorem dX5_set_33 : decode cX5_set 33 = .ok (.iload_n 1, 1) := by decide +kernel
theorem dX5_set_34 : decode cX5_set 34 = .ok (.iconst 0, 1) := by decide +kernel
theorem dX5_set_35 : decode cX5_set 35 = .ok (.iconst 5, 1) := by decide +kernel
theorem dX5_set_36 : decode cX5_set 36 = .ok (.invokestatic 28, 3) := by decide +kernel
theorem dX5_set_39 : decode cX5_set 39 = .ok (.ifCond .eq 12, 3) := by decide +kernel
theorem dX5_set_42 : decode cX5_set 42 = .ok (.iload_n 2, 1) := by decide +kernel
theorem dX5_set_43 : decode cX5_set 43 = .ok (.iconst 0, 1) := by decide +kernel
theorem dX5_set_44 : decode cX5_set 44 = .ok (.iload_n 3, 1) := by decide +kernel
theorem dX5_set_45 : decode cX5_set 45 = .ok (.invokestatic 28, 3) := by decide +kernel
theorem dX5_set_48 : decode cX5_set 48 = .ok (.ifCond .ne 5, 3) := by decide +kernel
theorem dX5_set_51 : decode cX5_set 51 = .ok (.iconst (-1), 1) := by decide +kernel
theorem dX5_set_52 : decode cX5_set 52 = .ok (.ireturn, 1) := by decide +kernel
theorem dX5_set_53 : decode cX5_set 53 = .ok (.aload_n 0, 1) := by decide +kernel
theorem dX5_set_54 : decode cX5_set 54 = .ok (.iload_n 1, 1) := by decide +kernel
theorem dX5_set_55 : decode cX5_set 55 = .ok (.invokevirtual 59, 3) := by decide +kernel
theorem dX5_set_58 : decode cX5_set 58 = .ok (.istore 4, 2) := by decide +kernel
theorem dX5_set_60 : decode cX5_set 60 = .ok (.iload_n 1, 1) := by decide +kernel
theorem dX5_set_61 : decode cX5_set 61 = .ok (.tableswitch 75 0 4 #[35, 43, 51, 59, 67], 35) := by decide +kernel
theorem dX5_set_96 : decode cX5_set 96 = .ok (.aload_n 0, 1) := by decide +kernel
theorem dX5_set_97 : decode cX5_set 97 = .ok (.iload_n 2, 1) := by decide +kernel
theorem dX5_set_98 : decode cX5_set 98 = .ok (.putfield 33, 3) := by decide +kernel
theorem dX5_set_101 : decode cX5_set 101 = .ok (.goto 49, 3) := by decide +kernel
theorem dX5_set_104 : decode cX5_set 104 = .ok (.aload_n 0, 1) := by decide +kernel
theorem dX5_set_105 : decode cX5_set 105 = .ok (.iload_n 2, 1) := by decide +kernel
theorem dX5_set_106 : decode cX5_set 106 = .ok (.putfield 37, 3) := by decide +kernel
theorem dX5_set_109 : decode cX5_set 109 = .ok (.goto 41, 3) := by decide +kernel
theorem dX5_set_112 : decode cX5_set 112 = .ok (.aload_n 0, 1) := by decide +kernel
theorem dX5_set_113 : decode cX5_set 113 = .ok (.iload_n 2, 1) := by decide +kernel
theorem dX5_set_114 : decode cX5_set 114 = .ok (.putfield 40, 3) := by decide +kernel
theorem dX5_set_117 : decode cX5_set 117 = .ok (.goto 33, 3) := by decide +kernel
theorem dX5_set_120 : decode cX5_set 120 = .ok (.aload_n 0, 1) := by decide +kernel
theorem dX5_set_121 : decode cX5_set 121 = .ok (.iload_n 2, 1) := by decide +kernel
theorem dX5_set_122 : decode cX5_set 122 = .ok (.putfield 43, 3) := by decide +kernel
theorem dX5_set_125 : decode cX5_set 125 = .ok (.goto 25, 3) := by decide +kernel
theorem dX5_set_128 : decode cX5_set 128 = .ok (.aload_n 0, 1) := by decide +kernel
theorem dX5_set_129 : decode cX5_set 129 = .ok (.iload_n 2, 1) := by decide +kernel
theorem dX5_set_130 : decode cX5_set 130 = .ok (.putfield 46, 3) := by decide +kernel
theorem dX5_set_133 : decode cX5_set 133 = .ok (.goto 17, 3) := by decide +kernel
theorem dX5_set_136 : decode cX5_set 136 = .ok (.aload_n 0, 1) := by decide +kernel
theorem dX5_set_137 : decode cX5_set 137 = .ok (.iload_n 2, 1) := by decide +kernel
theorem dX5_set_138 : decode cX5_set 138 = .ok (.iconst 1, 1) := by decide +kernel
theorem dX5_set_139 : decode cX5_set 139 = .ok (.if_icmp .ne 7, 3) := by decide +kernel
theorem dX5_set_142 : decode cX5_set 142 = .ok (.iconst 1, 1) := by decide +kernel
theorem dX5_set_143 : decode cX5_set 143 = .ok (.goto 4, 3) := by decide +kernel
theorem dX5_set_146 : decode cX5_set 146 = .ok (.iconst 0, 1) := by decide +kernel
theorem dX5_set_147 : decode cX5_set 147 = .ok (.putfield 49, 3) := by decide +kernel
theorem dX5_set_150 : decode cX5_set 150 = .ok (.iload 4, 2) := by decide +kernel
theorem dX5_set_152 : decode cX5_set 152 = .ok (.ireturn, 1) := by decide +kernel
theorem dX5_switches_0 : decode cX5_switches 0 = .ok (.iload_n 1, 1) := by decide +kernel
theorem dX5_switches_1 : decode cX5_switches 1 = .ok (.iconst 0, 1) := by decide +kernel
theorem dX5_switches_2 : decode cX5_switches 2 = .ok (.bipush 63, 2) := by decide +kernel
theorem dX5_switches_4 : decode cX5_switches 4 = .ok (.invokestatic 28, 3) := by decide +kernel
theorem dX5_switches_7 : decode cX5_switches 7 = .ok (.ifCond .eq 13, 3) := by decide +kernel
theorem dX5_switches_10 : decode cX5_switches 10 = .ok (.iload_n 2, 1) := by decide +kernel
theorem dX5_switches_11 : decode cX5_switches 11 = .ok (.iconst 0, 1) := by decide +kernel
theorem dX5_switches_12 : decode cX5_switches 12 = .ok (.ldc 32, 2) := by decide +kernel
theorem dX5_switches_14 : decode cX5_switches 14 = .ok (.invokestatic 28, 3) := by decide +kernel
theorem dX5_switches_17 : decode cX5_switches 17 = .ok (.ifCond .ne 5, 3) := by decide +kernel
theorem dX5_switches_20 : decode cX5_switches 20 = .ok (.iconst (-1), 1) := by decide +kernel
theorem dX5_switches_21 : decode cX5_switches 21 = .ok (.ireturn, 1) := by decide +kernel
theorem dX5_switches_22 : decode cX5_switches 22 = .ok (.aload_n 0, 1) := by decide +kernel
theorem dX5_switches_23 : decode cX5_switches 23 = .ok (.getfield 63, 3) := by decide +kernel
theorem dX5_switches_26 : decode cX5_switches 26 = .ok (.istore_n 3, 1) := by decide +kernel
theorem dX5_switches_27 : decode cX5_switches 27 = .ok (.aload_n 0, 1) := by decide +kernel
theorem dX5_switches_28 : decode cX5_switches 28 = .ok (.iload_n 1, 1) := by decide +kernel
theorem dX5_switches_29 : decode cX5_switches 29 = .ok (.putfield 63, 3) := by decide +kernel
theorem dX5_switches_32 : decode cX5_switches 32 = .ok (.aload_n 0, 1) := by decide +kernel
theorem dX5_switches_33 : decode cX5_switches 33 = .ok (.iload_n 2, 1) := by decide +kernel
theorem dX5_switches_34 : decode cX5_switches 34 = .ok (.putfield 66, 3) := by decide +kernel
theorem dX5_switches_37 : decode cX5_switches 37 = .ok (.iload_n 3, 1) := by decide +kernel
theorem dX5_switches_38 : decode cX5_switches 38 = .ok (.ireturn, 1) := by decide +kernel
theorem dX5_type_0 : decode cX5_type 0 = .ok (.iload_n 1, 1) := by decide +kernel
theorem dX5_type_1 : decode cX5_type 1 = .ok (.iconst 0, 1) := by decide +kernel
theorem dX5_type_2 : decode cX5_type 2 = .ok (.bipush 63, 2) := by decide +kernel
theorem dX5_type_4 : decode cX5_type 4 = .ok (.invokestatic 28, 3) := by decide +kernel
theorem dX5_type_7 : decode cX5_type 7 = .ok (.ifCond .ne 5, 3) := by decide +kernel
theorem dX5_type_10 : decode cX5_type 10 = .ok (.iconst (-1), 1) := by decide +kernel
theorem dX5_type_11 : decode cX5_type 11 = .ok (.ireturn, 1) := by decide +kernel
theorem dX5_type_12 : decode cX5_type 12 = .ok (.aload_n 0, 1) := by decide +kernel
theorem dX5_type_13 : decode cX5_type 13 = .ok (.getfield 69, 3) := by decide +kernel
theorem dX5_type_16 : decode cX5_type 16 = .ok (.bipush 100, 2) := by decide +kernel
theorem dX5_type_18 : decode cX5_type 18 = .ok (.if_icmp .ne 6, 3) := by decide +kernel
theorem dX5_type_21 : decode cX5_type 21 = .ok (.bipush (-3), 2) := by decide +kernel
theorem dX5_type_23 : decode cX5_type 23 = .ok (.ireturn, 1) := by decide +kernel
theorem dX5_type_24 : decode cX5_type 24 = .ok (.aload_n 0, 1) := by decide +kernel
theorem dX5_type_25 : decode cX5_type 25 = .ok (.getfield 13, 3) := by decide +kernel
theorem dX5_type_28 : decode cX5_type 28 = .ok (.aload_n 0, 1) := by decide +kernel
theorem dX5_type_29 : decode cX5_type 29 = .ok (.getfield 69, 3) := by decide +kernel
theorem dX5_type_32 : decode cX5_type 32 = .ok (.iload_n 1, 1) := by decide +kernel
theorem dX5_type_33 : decode cX5_type 33 = .ok (.iastore, 1) := by decide +kernel
theorem dX5_type_34 : decode cX5_type 34 = .ok (.aload_n 0, 1) := by decide +kernel
theorem dX5_type_35 : decode cX5_type 35 = .ok (.dup, 1) := by decide +kernel
theorem dX5_type_36 : decode cX5_type 36 = .ok (.getfield 69, 3) := by decide +kernel
theorem dX5_type_39 : decode cX5_type 39 = .ok (.iconst 1, 1) := by decide +kernel
theorem dX5_type_40 : decode cX5_type 40 = .ok (.iadd, 1) := by decide +kernel
theorem dX5_type_41 : decode cX5_type 41 = .ok (.putfield 69, 3) := by decide +kernel
theorem dX5_type_44 : decode cX5_type 44 = .ok (.aload_n 0, 1) := by decide +kernel
theorem dX5_type_45 : decode cX5_type 45 = .ok (.getfield 69, 3) := by decide +kernel
theorem dX5_type_48 : decode cX5_type 48 = .ok (.aload_n 0, 1) := by decide +kernel
theorem dX5_type_49 : decode cX5_type 49 = .ok (.getfield 72, 3) := by decide +kernel
theorem dX5_type_52 : decode cX5_type 52 = .ok (.isub, 1) := by decide +kernel
theorem dX5_type_53 : decode cX5_type 53 = .ok (.ireturn, 1) := by decide +kernel
theorem dX5_ask_0 : decode cX5_ask 0 = .ok (.aload_n 0, 1) := by decide +kernel
theorem dX5_ask_1 : decode cX5_ask 1 = .ok (.getfield 53, 3) := by decide +kernel
theorem dX5_ask_4 : decode cX5_ask 4 = .ok (.ifCond .eq 7, 3) := by decide +kernel
theorem dX5_ask_7 : decode cX5_ask 7 = .ok (.iconst 0, 1) := by decide +kernel
theorem dX5_ask_8 : decode cX5_ask 8 = .ok (.goto 4, 3) := by decide +kernel
theorem dX5_ask_11 : decode cX5_ask 11 = .ok (.iconst 1, 1) := by decide +kernel
theorem dX5_ask_12 : decode cX5_ask 12 = .ok (.istore_n 1, 1) := by decide +kernel
theorem dX5_ask_13 : decode cX5_ask 13 = .ok (.aload_n 0, 1) := by decide +kernel
theorem dX5_ask_14 : decode cX5_ask 14 = .ok (.iconst 1, 1) := by decide +kernel
theorem dX5_ask_15 : decode cX5_ask 15 = .ok (.putfield 53, 3) := by decide +kernel
theorem dX5_ask_18 : decode cX5_ask 18 = .ok (.iload_n 1, 1) := by decide +kernel
theorem dX5_ask_19 : decode cX5_ask 19 = .ok (.ireturn, 1) := by decide +kernel
theorem dX5_not_0 : decode cX5_not 0 = .ok (.ldc 32, 2) := by decide +kernel
theorem dX5_not_2 : decode cX5_not 2 = .ok (.iload_n 0, 1) := by decide +kernel
theorem dX5_not_3 : decode cX5_not 3 = .ok (.isub, 1) := by decide +kernel
theorem dX5_not_4 : decode cX5_not 4 = .ok (.ireturn, 1) := by decide +kernel
theorem dX5_sign_0 : decode cX5_sign 0 = .ok (.iload_n 0, 1) := by decide +kernel
theorem dX5_sign_1 : decode cX5_sign 1 = .ok (.bipush 17, 2) := by decide +kernel
theorem dX5_sign_3 : decode cX5_sign 3 = .ok (.ishr, 1) := by decide +kernel
theorem dX5_sign_4 : decode cX5_sign 4 = .ok (.ireturn, 1) := by decide +kernel
theorem dX5_sum_0 : decode cX5_sum 0 = .ok (.iload_n 0, 1) := by decide +kernel
theorem dX5_sum_1 : decode cX5_sum 1 = .ok (.iload_n 1, 1) := by decide +kernel
theorem dX5_sum_2 : decode cX5_sum 2 = .ok (.iadd, 1) := by decide +kernel
theorem dX5_sum_3 : decode cX5_sum 3 = .ok (.istore_n 2, 1) := by decide +kernel
theorem dX5_sum_4 : decode cX5_sum 4 = .ok (.iload_n 2, 1) := by decide +kernel
theorem dX5_sum_5 : decode cX5_sum 5 = .ok (.ldc 32, 2) := by decide +kernel
theorem dX5_sum_7 : decode cX5_sum 7 = .ok (.if_icmp .le 10, 3) := by decide +kernel
theorem dX5_sum_10 : decode cX5_sum 10 = .ok (.iload_n 2, 1) := by decide +kernel
theorem dX5_sum_11 : decode cX5_sum 11 = .ok (.ldc 32, 2) := by decide +kernel
theorem dX5_sum_13 : decode cX5_sum 13 = .ok (.isub, 1) := by decide +kernel
theorem dX5_sum_14 : decode cX5_sum 14 = .ok (.goto 4, 3) := by decide +kernel
theorem dX5_sum_17 : decode cX5_sum 17 = .ok (.iload_n 2, 1) := by decide +kernel
theorem dX5_sum_18 : decode cX5_sum 18 = .ok (.ireturn, 1) := by decide +kernel
theorem dX5_plain_0 : decode cX5_plain 0 = .ok (.iload_n 0, 1) := by decide +kernel
theorem dX5_plain_1 : decode cX5_plain 1 = .ok (.ldc 32, 2) := by decide +kernel
theorem dX5_plain_3 : decode cX5_plain 3 = .ok (.if_icmp .ne 7, 3) := by decide +kernel
theorem dX5_plain_6 : decode cX5_plain 6 = .ok (.iconst 0, 1) := by decide +kernel
theorem dX5_plain_7 : decode cX5_plain 7 = .ok (.goto 4, 3) := by decide +kernel
theorem dX5_plain_10 : decode cX5_plain 10 = .ok (.iload_n 0, 1) := by decide +kernel
theorem dX5_plain_11 : decode cX5_plain 11 = .ok (.ireturn, 1) := by decide +kernel
theorem dX5_overflows_0 : decode cX5_overflows 0 = .ok (.iload_n 1, 1) := by decide +kernel
theorem dX5_overflows_1 : decode cX5_overflows 1 = .ok (.iload_n 2, 1) := by decide +kernel
theorem dX5_overflows_2 : decode cX5_overflows 2 = .ok (.invokestatic 75, 3) := by decide +kernel
theorem dX5_overflows_5 : decode cX5_overflows 5 = .ok (.istore_n 3, 1) := by decide +kernel
theorem dX5_overflows_6 : decode cX5_overflows 6 = .ok (.iload_n 1, 1) := by decide +kernel
theorem dX5_overflows_7 : decode cX5_overflows 7 = .ok (.invokestatic 79, 3) := by decide +kernel
theorem dX5_overflows_10 : decode cX5_overflows 10 = .ok (.iload_n 2, 1) := by decide +kernel
theorem dX5_overflows_11 : decode cX5_overflows 11 = .ok (.invokestatic 79, 3) := by decide +kernel
theorem dX5_overflows_14 : decode cX5_overflows 14 = .ok (.if_icmp .ne 29, 3) := by decide +kernel
theorem dX5_overflows_17 : decode cX5_overflows 17 = .ok (.iload_n 3, 1) := by decide +kernel
theorem dX5_overflows_18 : decode cX5_overflows 18 = .ok (.invokestatic 79, 3) := by decide +kernel
theorem dX5_overflows_21 : decode cX5_overflows 21 = .ok (.iload_n 1, 1) := by decide +kernel
theorem dX5_overflows_22 : decode cX5_overflows 22 = .ok (.invokestatic 79, 3) := by decide +kernel
theorem dX5_overflows_25 : decode cX5_overflows 25 = .ok (.if_icmp .eq 18, 3) := by decide +kernel
theorem dX5_overflows_28 : decode cX5_overflows 28 = .ok (.aload_n 0, 1) := by decide +kernel
theorem dX5_overflows_29 : decode cX5_overflows 29 = .ok (.iconst 1, 1) := by decide +kernel
theorem dX5_overflows_30 : decode cX5_overflows 30 = .ok (.putfield 43, 3) := by decide +kernel
theorem dX5_overflows_33 : decode cX5_overflows 33 = .ok (.aload_n 0, 1) := by decide +kernel
theorem dX5_overflows_34 : decode cX5_overflows 34 = .ok (.getfield 25, 3) := by decide +kernel
theorem dX5_overflows_37 : decode cX5_overflows 37 = .ok (.iconst 5, 1) := by decide +kernel
theorem dX5_overflows_38 : decode cX5_overflows 38 = .ok (.dup2, 1) := by decide +kernel
theorem dX5_overflows_39 : decode cX5_overflows 39 = .ok (.iaload, 1) := by decide +kernel
theorem dX5_overflows_40 : decode cX5_overflows 40 = .ok (.iconst 1, 1) := by decide +kernel
theorem dX5_overflows_41 : decode cX5_overflows 41 = .ok (.iadd, 1) := by decide +kernel
theorem dX5_overflows_42 : decode cX5_overflows 42 = .ok (.iastore, 1) := by decide +kernel
theorem dX5_overflows_43 : decode cX5_overflows 43 = .ok (.return_, 1) := by decide +kernel
theorem dX5_ones_0 : decode cX5_ones 0 = .ok (.iconst 0, 1) := by decide +kernel
theorem dX5_ones_1 : decode cX5_ones 1 = .ok (.istore_n 1, 1) := by decide +kernel
theorem dX5_ones_2 : decode cX5_ones 2 = .ok (.iconst 0, 1) := by decide +kernel
theorem dX5_ones_3 : decode cX5_ones 3 = .ok (.istore_n 2, 1) := by decide +kernel
theorem dX5_ones_4 : decode cX5_ones 4 = .ok (.iload_n 2, 1) := by decide +kernel
theorem dX5_ones_5 : decode cX5_ones 5 = .ok (.bipush 9, 2) := by decide +kernel
theorem dX5_ones_7 : decode cX5_ones 7 = .ok (.if_icmp .ge 17, 3) := by decide +kernel
theorem dX5_ones_10 : decode cX5_ones 10 = .ok (.iload_n 1, 1) := by decide +kernel
theorem dX5_ones_11 : decode cX5_ones 11 = .ok (.iload_n 0, 1) := by decide +kernel
theorem dX5_ones_12 : decode cX5_ones 12 = .ok (.iload_n 2, 1) := by decide +kernel
theorem dX5_ones_13 : decode cX5_ones 13 = .ok (.ishr, 1) := by decide +kernel
theorem dX5_ones_14 : decode cX5_ones 14 = .ok (.iconst 1, 1) := by decide +kernel
theorem dX5_ones_15 : decode cX5_ones 15 = .ok (.iand, 1) := by decide +kernel
theorem dX5_ones_16 : decode cX5_ones 16 = .ok (.iadd, 1) := by decide +kernel
theorem dX5_ones_17 : decode cX5_ones 17 = .ok (.istore_n 1, 1) := by decide +kernel
theorem dX5_ones_18 : decode cX5_ones 18 = .ok (.iinc 2 1, 3) := by decide +kernel
theorem dX5_ones_21 : decode cX5_ones 21 = .ok (.goto (-17), 3) := by decide +kernel
theorem dX5_ones_24 : decode cX5_ones 24 = .ok (.iload_n 1, 1) := by decide +kernel
theorem dX5_ones_25 : decode cX5_ones 25 = .ok (.ireturn, 1) := by decide +kernel
theorem dX5_hasAddress_0 : decode cX5_hasAddress 0 = .ok (.iload_n 0, 1) := by decide +kernel
theorem dX5_hasAddress_1 : decode cX5_hasAddress 1 = .ok (.iconst 1, 1) := by decide +kernel
theorem dX5_hasAddress_2 : decode cX5_hasAddress 2 = .ok (.iconst 4, 1) := by decide +kernel
theorem dX5_hasAddress_3 : decode cX5_hasAddress 3 = .ok (.invokestatic 28, 3) := by decide +kernel
theorem dX5_hasAddress_6 : decode cX5_hasAddress 6 = .ok (.ifCond .ne 25, 3) := by decide +kernel
theorem dX5_hasAddress_9 : decode cX5_hasAddress 9 = .ok (.iload_n 0, 1) := by decide +kernel
theorem dX5_hasAddress_10 : decode cX5_hasAddress 10 = .ok (.bipush 8, 2) := by decide +kernel
theorem dX5_hasAddress_12 : decode cX5_hasAddress 12 = .ok (.bipush 14, 2) := by decide +kernel
theorem dX5_hasAddress_14 : decode cX5_hasAddress 14 = .ok (.invokestatic 28, 3) := by decide +kernel
theorem dX5_hasAddress_17 : decode cX5_hasAddress 17 = .ok (.ifCond .ne 14, 3) := by decide +kernel
theorem dX5_hasAddress_20 : decode cX5_hasAddress 20 = .ok (.iload_n 0, 1) := by decide +kernel
theorem dX5_hasAddress_21 : decode cX5_hasAddress 21 = .ok (.bipush 16, 2) := by decide +kernel
theorem dX5_hasAddress_23 : decode cX5_hasAddress 23 = .ok (.bipush 25, 2) := by decide +kernel
theorem dX5_hasAddress_25 : decode cX5_hasAddress 25 = .ok (.invokestatic 28, 3) := by decide +kernel
theorem dX5_hasAddress_28 : decode cX5_hasAddress 28 = .ok (.ifCond .eq 7, 3) := by decide +kernel
theorem dX5_hasAddress_31 : decode cX5_hasAddress 31 = .ok (.iconst 1, 1) := by decide +kernel
theorem dX5_hasAddress_32 : decode cX5_hasAddress 32 = .ok (.goto 4, 3) := by decide +kernel
theorem dX5_hasAddress_35 : decode cX5_hasAddress 35 = .ok (.iconst 0, 1) := by decide +kernel
theorem dX5_hasAddress_36 : decode cX5_hasAddress 36 = .ok (.ireturn, 1) := by decide +kernel
theorem dX5_isIllegal_0 : decode cX5_isIllegal 0 = .ok (.iload_n 0, 1) := by decide +kernel
theorem dX5_isIllegal_1 : decode cX5_isIllegal 1 = .ok (.bipush 13, 2) := by decide +kernel
theorem dX5_isIllegal_3 : decode cX5_isIllegal 3 = .ok (.ishr, 1) := by decide +kernel
theorem dX5_isIllegal_4 : decode cX5_isIllegal 4 = .ok (.istore_n 1, 1) := by decide +kernel
theorem dX5_isIllegal_5 : decode cX5_isIllegal 5 = .ok (.iload_n 0, 1) := by decide +kernel
theorem dX5_isIllegal_6 : decode cX5_isIllegal 6 = .ok (.bipush 9, 2) := by decide +kernel
theorem dX5_isIllegal_8 : decode cX5_isIllegal 8 = .ok (.ishr, 1) := by decide +kernel
theorem dX5_isIllegal_9 : decode cX5_isIllegal 9 = .ok (.iconst 3, 1) := by decide +kernel
theorem dX5_isIllegal_10 : decode cX5_isIllegal 10 = .ok (.iand, 1) := by decide +kernel
theorem dX5_isIllegal_11 : decode cX5_isIllegal 11 = .ok (.istore_n 2, 1) := by decide +kernel
theorem dX5_isIllegal_12 : decode cX5_isIllegal 12 = .ok (.iload_n 1, 1) := by decide +kernel
theorem dX5_isIllegal_13 : decode cX5_isIllegal 13 = .ok (.ifCond .eq 36, 3) := by decide +kernel
theorem dX5_isIllegal_16 : decode cX5_isIllegal 16 = .ok (.iload_n 1, 1) := by decide +kernel
theorem dX5_isIllegal_17 : decode cX5_isIllegal 17 = .ok (.iconst 5, 1) := by decide +kernel
theorem dX5_isIllegal_18 : decode cX5_isIllegal 18 = .ok (.if_icmp .eq 31, 3) := by decide +kernel
theorem dX5_isIllegal_21 : decode cX5_isIllegal 21 = .ok (.iload_n 1, 1) := by decide +kernel
theorem dX5_isIllegal_22 : decode cX5_isIllegal 22 = .ok (.bipush 6, 2) := by decide +kernel
theorem dX5_isIllegal_24 : decode cX5_isIllegal 24 = .ok (.if_icmp .eq 25, 3) := by decide +kernel
theorem dX5_isIllegal_27 : decode cX5_isIllegal 27 = .ok (.iload_n 1, 1) := by decide +kernel
theorem dX5_isIllegal_28 : decode cX5_isIllegal 28 = .ok (.bipush 15, 2) := by decide +kernel
theorem dX5_isIllegal_30 : decode cX5_isIllegal 30 = .ok (.if_icmp .eq 19, 3) := by decide +kernel
theorem dX5_isIllegal_33 : decode cX5_isIllegal 33 = .ok (.iload_n 1, 1) := by decide +kernel
theorem dX5_isIllegal_34 : decode cX5_isIllegal 34 = .ok (.bipush 30, 2) := by decide +kernel
theorem dX5_isIllegal_36 : decode cX5_isIllegal 36 = .ok (.if_icmp .eq 13, 3) := by decide +kernel
theorem dX5_isIllegal_39 : decode cX5_isIllegal 39 = .ok (.iload_n 1, 1) := by decide +kernel
theorem dX5_isIllegal_40 : decode cX5_isIllegal 40 = .ok (.bipush 27, 2) := by decide +kernel
theorem dX5_isIllegal_42 : decode cX5_isIllegal 42 = .ok (.if_icmp .ne 11, 3) := by decide +kernel
theorem dX5_isIllegal_45 : decode cX5_isIllegal 45 = .ok (.iload_n 2, 1) := by decide +kernel
theorem dX5_isIllegal_46 : decode cX5_isIllegal 46 = .ok (.ifCond .ne 7, 3) := by decide +kernel
theorem dX5_isIllegal_49 : decode cX5_isIllegal 49 = .ok (.iconst 1, 1) := by decide +kernel
theorem dX5_isIllegal_50 : decode cX5_isIllegal 50 = .ok (.goto 4, 3) := by decide +kernel
theorem dX5_isIllegal_53 : decode cX5_isIllegal 53 = .ok (.iconst 0, 1) := by decide +kernel
theorem dX5_isIllegal_54 : decode cX5_isIllegal 54 = .ok (.ireturn, 1) := by decide +kernel
theorem dX5_addressOf_0 : decode cX5_addressOf 0 = .ok (.iload_n 1, 1) := by decide +kernel
theorem dX5_addressOf_1 : decode cX5_addressOf 1 = .ok (.sipush 4095, 3) := by decide +kernel
theorem dX5_addressOf_4 : decode cX5_addressOf 4 = .ok (.iand, 1) := by decide +kernel
theorem dX5_addressOf_5 : decode cX5_addressOf 5 = .ok (.istore_n 2, 1) := by decide +kernel
theorem dX5_addressOf_6 : decode cX5_addressOf 6 = .ok (.iload_n 1, 1) := by decide +kernel
theorem dX5_addressOf_7 : decode cX5_addressOf 7 = .ok (.bipush 12, 2) := by decide +kernel
theorem dX5_addressOf_9 : decode cX5_addressOf 9 = .ok (.ishr, 1) := by decide +kernel
theorem dX5_addressOf_10 : decode cX5_addressOf 10 = .ok (.iconst 1, 1) := by decide +kernel
theorem dX5_addressOf_11 : decode cX5_addressOf 11 = .ok (.iand, 1) := by decide +kernel
theorem dX5_addressOf_12 : decode cX5_addressOf 12 = .ok (.iconst 1, 1) := by decide +kernel
theorem dX5_addressOf_13 : decode cX5_addressOf 13 = .ok (.if_icmp .ne 7, 3) := by decide +kernel
theorem dX5_addressOf_16 : decode cX5_addressOf 16 = .ok (.iconst 1, 1) := by decide +kernel
theorem dX5_addressOf_17 : decode cX5_addressOf 17 = .ok (.goto 4, 3) := by decide +kernel
theorem dX5_addressOf_20 : decode cX5_addressOf 20 = .ok (.iconst 0, 1) := by decide +kernel
theorem dX5_addressOf_21 : decode cX5_addressOf 21 = .ok (.istore_n 3, 1) := by decide +kernel
theorem dX5_addressOf_22 : decode cX5_addressOf 22 = .ok (.iconst 0, 1) := by decide +kernel
theorem dX5_addressOf_23 : decode cX5_addressOf 23 = .ok (.istore 4, 2) := by decide +kernel
theorem dX5_addressOf_25 : decode cX5_addressOf 25 = .ok (.iload_n 3, 1) := by decide +kernel
theorem dX5_addressOf_26 : decode cX5_addressOf 26 = .ok (.ifCond .eq 60, 3) := by decide +kernel
theorem dX5_addressOf_29 : decode cX5_addressOf 29 = .ok (.iload 4, 2) := by decide +kernel
theorem dX5_addressOf_31 : decode cX5_addressOf 31 = .ok (.bipush 32, 2) := by decide +kernel
theorem dX5_addressOf_33 : decode cX5_addressOf 33 = .ok (.if_icmp .ne 5, 3) := by decide +kernel
theorem dX5_addressOf_36 : decode cX5_addressOf 36 = .ok (.iconst (-1), 1) := by decide +kernel
theorem dX5_addressOf_37 : decode cX5_addressOf 37 = .ok (.ireturn, 1) := by decide +kernel
theorem dX5_addressOf_38 : decode cX5_addressOf 38 = .ok (.aload_n 0, 1) := by decide +kernel
theorem dX5_addressOf_39 : decode cX5_addressOf 39 = .ok (.getfield 7, 3) := by decide +kernel
theorem dX5_addressOf_42 : decode cX5_addressOf 42 = .ok (.iload_n 2, 1) := by decide +kernel
theorem dX5_addressOf_43 : decode cX5_addressOf 43 = .ok (.iaload, 1) := by decide +kernel
theorem dX5_addressOf_44 : decode cX5_addressOf 44 = .ok (.istore 5, 2) := by decide +kernel
theorem dX5_addressOf_46 : decode cX5_addressOf 46 = .ok (.aload_n 0, 1) := by decide +kernel
theorem dX5_addressOf_47 : decode cX5_addressOf 47 = .ok (.getfield 25, 3) := by decide +kernel
theorem dX5_addressOf_50 : decode cX5_addressOf 50 = .ok (.iconst 2, 1) := by decide +kernel
theorem dX5_addressOf_51 : decode cX5_addressOf 51 = .ok (.dup2, 1) := by decide +kernel
theorem dX5_addressOf_52 : decode cX5_addressOf 52 = .ok (.iaload, 1) := by decide +kernel
theorem dX5_addressOf_53 : decode cX5_addressOf 53 = .ok (.iconst 1, 1) := by decide +kernel
theorem dX5_addressOf_54 : decode cX5_addressOf 54 = .ok (.iadd, 1) := by decide +kernel
theorem dX5_addressOf_55 : decode cX5_addressOf 55 = .ok (.iastore, 1) := by decide +kernel
theorem dX5_addressOf_56 : decode cX5_addressOf 56 = .ok (.iload 5, 2) := by decide +kernel
theorem dX5_addressOf_58 : decode cX5_addressOf 58 = .ok (.sipush 4095, 3) := by decide +kernel
theorem dX5_addressOf_61 : decode cX5_addressOf 61 = .ok (.iand, 1) := by decide +kernel
theorem dX5_addressOf_62 : decode cX5_addressOf 62 = .ok (.istore_n 2, 1) := by decide +kernel
theorem dX5_addressOf_63 : decode cX5_addressOf 63 = .ok (.iload 5, 2) := by decide +kernel
theorem dX5_addressOf_65 : decode cX5_addressOf 65 = .ok (.bipush 12, 2) := by decide +kernel
theorem dX5_addressOf_67 : decode cX5_addressOf 67 = .ok (.ishr, 1) := by decide +kernel
theorem dX5_addressOf_68 : decode cX5_addressOf 68 = .ok (.iconst 1, 1) := by decide +kernel
theorem dX5_addressOf_69 : decode cX5_addressOf 69 = .ok (.iand, 1) := by decide +kernel
theorem dX5_addressOf_70 : decode cX5_addressOf 70 = .ok (.iconst 1, 1) := by decide +kernel
theorem dX5_addressOf_71 : decode cX5_addressOf 71 = .ok (.if_icmp .ne 7, 3) := by decide +kernel
theorem dX5_addressOf_74 : decode cX5_addressOf 74 = .ok (.iconst 1, 1) := by decide +kernel
theorem dX5_addressOf_75 : decode cX5_addressOf 75 = .ok (.goto 4, 3) := by decide +kernel
theorem dX5_addressOf_78 : decode cX5_addressOf 78 = .ok (.iconst 0, 1) := by decide +kernel
theorem dX5_addressOf_79 : decode cX5_addressOf 79 = .ok (.istore_n 3, 1) := by decide +kernel
theorem dX5_addressOf_80 : decode cX5_addressOf 80 = .ok (.iinc 4 1, 3) := by decide +kernel
theorem dX5_addressOf_83 : decode cX5_addressOf 83 = .ok (.goto (-58), 3) := by decide +kernel
theorem dX5_addressOf_86 : decode cX5_addressOf 86 = .ok (.iload_n 2, 1) := by decide +kernel
theorem dX5_addressOf_87 : decode cX5_addressOf 87 = .ok (.ireturn, 1) := by decide +kernel
theorem dX5_place_0 : decode cX5_place 0 = .ok (.aload_n 0, 1) := by decide +kernel
theorem dX5_place_1 : decode cX5_place 1 = .ok (.getfield 40, 3) := by decide +kernel
theorem dX5_place_4 : decode cX5_place 4 = .ok (.aload_n 0, 1) := by decide +kernel
theorem dX5_place_5 : decode cX5_place 5 = .ok (.getfield 43, 3) := by decide +kernel
theorem dX5_place_8 : decode cX5_place 8 = .ok (.bipush 17, 2) := by decide +kernel
theorem dX5_place_10 : decode cX5_place 10 = .ok (.ishl, 1) := by decide +kernel
theorem dX5_place_11 : decode cX5_place 11 = .ok (.ior, 1) := by decide +kernel
theorem dX5_place_12 : decode cX5_place 12 = .ok (.ireturn, 1) := by decide +kernel
theorem dX5_skips_0 : decode cX5_skips 0 = .ok (.iload_n 1, 1) := by decide +kernel
theorem dX5_skips_1 : decode cX5_skips 1 = .ok (.ifCond .eq 27, 3) := by decide +kernel
theorem dX5_skips_4 : decode cX5_skips 4 = .ok (.aload_n 0, 1) := by decide +kernel
theorem dX5_skips_5 : decode cX5_skips 5 = .ok (.aload_n 0, 1) := by decide +kernel
theorem dX5_skips_6 : decode cX5_skips 6 = .ok (.getfield 40, 3) := by decide +kernel
theorem dX5_skips_9 : decode cX5_skips 9 = .ok (.iconst 1, 1) := by decide +kernel
theorem dX5_skips_10 : decode cX5_skips 10 = .ok (.iadd, 1) := by decide +kernel
theorem dX5_skips_11 : decode cX5_skips 11 = .ok (.sipush 4095, 3) := by decide +kernel
theorem dX5_skips_14 : decode cX5_skips 14 = .ok (.iand, 1) := by decide +kernel
theorem dX5_skips_15 : decode cX5_skips 15 = .ok (.putfield 40, 3) := by decide +kernel
theorem dX5_skips_18 : decode cX5_skips 18 = .ok (.aload_n 0, 1) := by decide +kernel
theorem dX5_skips_19 : decode cX5_skips 19 = .ok (.getfield 25, 3) := by decide +kernel
theorem dX5_skips_22 : decode cX5_skips 22 = .ok (.iconst 4, 1) := by decide +kernel
theorem dX5_skips_23 : decode cX5_skips 23 = .ok (.dup2, 1) := by decide +kernel
theorem dX5_skips_24 : decode cX5_skips 24 = .ok (.iaload, 1) := by decide +kernel
theorem dX5_skips_25 : decode cX5_skips 25 = .ok (.iconst 1, 1) := by decide +kernel
theorem dX5_skips_26 : decode cX5_skips 26 = .ok (.iadd, 1) := by decide +kernel
theorem dX5_skips_27 : decode cX5_skips 27 = .ok (.iastore, 1) := by decide +kernel
theorem dX5_skips_28 : decode cX5_skips 28 = .ok (.return_, 1) := by decide +kernel
theorem dX5_index_0 : decode cX5_index 0 = .ok (.aload_n 0, 1) := by decide +kernel
theorem dX5_index_1 : decode cX5_index 1 = .ok (.getfield 7, 3) := by decide +kernel
theorem dX5_index_4 : decode cX5_index 4 = .ok (.iload_n 1, 1) := by decide +kernel
theorem dX5_index_5 : decode cX5_index 5 = .ok (.iaload, 1) := by decide +kernel
theorem dX5_index_6 : decode cX5_index 6 = .ok (.iconst 1, 1) := by decide +kernel
theorem dX5_index_7 : decode cX5_index 7 = .ok (.iadd, 1) := by decide +kernel
theorem dX5_index_8 : decode cX5_index 8 = .ok (.istore_n 2, 1) := by decide +kernel
theorem dX5_index_9 : decode cX5_index 9 = .ok (.aload_n 0, 1) := by decide +kernel
theorem dX5_index_10 : decode cX5_index 10 = .ok (.iload_n 2, 1) := by decide +kernel
theorem dX5_index_11 : decode cX5_index 11 = .ok (.ldc 32, 2) := by decide +kernel
theorem dX5_index_13 : decode cX5_index 13 = .ok (.if_icmp .ne 7, 3) := by decide +kernel
theorem dX5_index_16 : decode cX5_index 16 = .ok (.iconst 0, 1) := by decide +kernel
theorem dX5_index_17 : decode cX5_index 17 = .ok (.goto 14, 3) := by decide +kernel
theorem dX5_index_20 : decode cX5_index 20 = .ok (.iload_n 2, 1) := by decide +kernel
theorem dX5_index_21 : decode cX5_index 21 = .ok (.ldc 32, 2) := by decide +kernel
theorem dX5_index_23 : decode cX5_index 23 = .ok (.if_icmp .le 7, 3) := by decide +kernel
theorem dX5_index_26 : decode cX5_index 26 = .ok (.iconst 1, 1) := by decide +kernel
theorem dX5_index_27 : decode cX5_index 27 = .ok (.goto 4, 3) := by decide +kernel
theorem dX5_index_30 : decode cX5_index 30 = .ok (.iload_n 2, 1) := by decide +kernel
theorem dX5_index_31 : decode cX5_index 31 = .ok (.putfield 33, 3) := by decide +kernel
theorem dX5_index_34 : decode cX5_index 34 = .ok (.aload_n 0, 1) := by decide +kernel
theorem dX5_index_35 : decode cX5_index 35 = .ok (.getfield 7, 3) := by decide +kernel
theorem dX5_index_38 : decode cX5_index 38 = .ok (.iload_n 1, 1) := by decide +kernel
theorem dX5_index_39 : decode cX5_index 39 = .ok (.aload_n 0, 1) := by decide +kernel
theorem dX5_index_40 : decode cX5_index 40 = .ok (.getfield 33, 3) := by decide +kernel
theorem dX5_index_43 : decode cX5_index 43 = .ok (.iastore, 1) := by decide +kernel
theorem dX5_index_44 : decode cX5_index 44 = .ok (.return_, 1) := by decide +kernel

-- decode rows, by program
theorem dX11_worksOut_0 : decode cX11_worksOut 0 = .ok (.iconst 0, 1) := by decide +kernel
theorem dX11_worksOut_1 : decode cX11_worksOut 1 = .ok (.istore_n 2, 1) := by decide +kernel
theorem dX11_worksOut_2 : decode cX11_worksOut 2 = .ok (.aload_n 0, 1) := by decide +kernel
theorem dX11_worksOut_3 : decode cX11_worksOut 3 = .ok (.getfield 9, 3) := by decide +kernel
theorem dX11_worksOut_6 : decode cX11_worksOut 6 = .ok (.bipush 116, 2) := by decide +kernel
theorem dX11_worksOut_8 : decode cX11_worksOut 8 = .ok (.iconst 2, 1) := by decide +kernel
theorem dX11_worksOut_9 : decode cX11_worksOut 9 = .ok (.iload_n 1, 1) := by decide +kernel
theorem dX11_worksOut_10 : decode cX11_worksOut 10 = .ok (.imul, 1) := by decide +kernel
theorem dX11_worksOut_11 : decode cX11_worksOut 11 = .ok (.iadd, 1) := by decide +kernel
theorem dX11_worksOut_12 : decode cX11_worksOut 12 = .ok (.iaload, 1) := by decide +kernel
theorem dX11_worksOut_13 : decode cX11_worksOut 13 = .ok (.sipush 1000, 3) := by decide +kernel
theorem dX11_worksOut_16 : decode cX11_worksOut 16 = .ok (.irem, 1) := by decide +kernel
theorem dX11_worksOut_17 : decode cX11_worksOut 17 = .ok (.istore_n 3, 1) := by decide +kernel
theorem dX11_worksOut_18 : decode cX11_worksOut 18 = .ok (.iconst 0, 1) := by decide +kernel
theorem dX11_worksOut_19 : decode cX11_worksOut 19 = .ok (.istore 4, 2) := by decide +kernel
theorem dX11_worksOut_21 : decode cX11_worksOut 21 = .ok (.iload 4, 2) := by decide +kernel
theorem dX11_worksOut_23 : decode cX11_worksOut 23 = .ok (.iload_n 3, 1) := by decide +kernel
theorem dX11_worksOut_24 : decode cX11_worksOut 24 = .ok (.if_icmp .ge 132, 3) := by decide +kernel
theorem dX11_worksOut_27 : decode cX11_worksOut 27 = .ok (.aload_n 0, 1) := by decide +kernel
theorem dX11_worksOut_28 : decode cX11_worksOut 28 = .ok (.getfield 9, 3) := by decide +kernel
theorem dX11_worksOut_31 : decode cX11_worksOut 31 = .ok (.sipush 144, 3) := by decide +kernel
theorem dX11_worksOut_34 : decode cX11_worksOut 34 = .ok (.bipush 96, 2) := by decide +kernel
theorem dX11_worksOut_36 : decode cX11_worksOut 36 = .ok (.iload_n 1, 1) := by decide +kernel
theorem dX11_worksOut_37 : decode cX11_worksOut 37 = .ok (.imul, 1) := by decide +kernel
theorem dX11_worksOut_38 : decode cX11_worksOut 38 = .ok (.iadd, 1) := by decide +kernel
theorem dX11_worksOut_39 : decode cX11_worksOut 39 = .ok (.iload 4, 2) := by decide +kernel
theorem dX11_worksOut_41 : decode cX11_worksOut 41 = .ok (.iadd, 1) := by decide +kernel
theorem dX11_worksOut_42 : decode cX11_worksOut 42 = .ok (.iaload, 1) := by decide +kernel
theorem dX11_worksOut_43 : decode cX11_worksOut 43 = .ok (.istore 5, 2) := by decide +kernel
theorem dX11_worksOut_45 : decode cX11_worksOut 45 = .ok (.iload 5, 2) := by decide +kernel
theorem dX11_worksOut_47 : decode cX11_worksOut 47 = .ok (.ifCond .lt 39, 3) := by decide +kernel
theorem dX11_worksOut_50 : decode cX11_worksOut 50 = .ok (.aload_n 0, 1) := by decide +kernel
theorem dX11_worksOut_51 : decode cX11_worksOut 51 = .ok (.getfield 45, 3) := by decide +kernel
theorem dX11_worksOut_54 : decode cX11_worksOut 54 = .ok (.iload_n 2, 1) := by decide +kernel
theorem dX11_worksOut_55 : decode cX11_worksOut 55 = .ok (.iload 5, 2) := by decide +kernel
theorem dX11_worksOut_57 : decode cX11_worksOut 57 = .ok (.sipush 10000, 3) := by decide +kernel
theorem dX11_worksOut_60 : decode cX11_worksOut 60 = .ok (.if_icmp .ge 8, 3) := by decide +kernel
theorem dX11_worksOut_63 : decode cX11_worksOut 63 = .ok (.iload 5, 2) := by decide +kernel
theorem dX11_worksOut_65 : decode cX11_worksOut 65 = .ok (.goto 14, 3) := by decide +kernel
theorem dX11_worksOut_68 : decode cX11_worksOut 68 = .ok (.aload_n 0, 1) := by decide +kernel
theorem dX11_worksOut_69 : decode cX11_worksOut 69 = .ok (.getfield 48, 3) := by decide +kernel
theorem dX11_worksOut_72 : decode cX11_worksOut 72 = .ok (.iload 5, 2) := by decide +kernel
theorem dX11_worksOut_74 : decode cX11_worksOut 74 = .ok (.sipush 10000, 3) := by decide +kernel
theorem dX11_worksOut_77 : decode cX11_worksOut 77 = .ok (.isub, 1) := by decide +kernel
theorem dX11_worksOut_78 : decode cX11_worksOut 78 = .ok (.iaload, 1) := by decide +kernel
theorem dX11_worksOut_79 : decode cX11_worksOut 79 = .ok (.iastore, 1) := by decide +kernel
theorem dX11_worksOut_80 : decode cX11_worksOut 80 = .ok (.iinc 2 1, 3) := by decide +kernel
theorem dX11_worksOut_83 : decode cX11_worksOut 83 = .ok (.goto 67, 3) := by decide +kernel
theorem dX11_worksOut_86 : decode cX11_worksOut 86 = .ok (.iload 5, 2) := by decide +kernel
theorem dX11_worksOut_88 : decode cX11_worksOut 88 = .ok (.bipush (-10), 2) := by decide +kernel
theorem dX11_worksOut_90 : decode cX11_worksOut 90 = .ok (.if_icmp .ne 30, 3) := by decide +kernel
theorem dX11_worksOut_93 : decode cX11_worksOut 93 = .ok (.aload_n 0, 1) := by decide +kernel
theorem dX11_worksOut_94 : decode cX11_worksOut 94 = .ok (.getfield 45, 3) := by decide +kernel
theorem dX11_worksOut_97 : decode cX11_worksOut 97 = .ok (.iload_n 2, 1) := by decide +kernel
theorem dX11_worksOut_98 : decode cX11_worksOut 98 = .ok (.iconst 1, 1) := by decide +kernel
theorem dX11_worksOut_99 : decode cX11_worksOut 99 = .ok (.isub, 1) := by decide +kernel
theorem dX11_worksOut_100 : decode cX11_worksOut 100 = .ok (.aload_n 0, 1) := by decide +kernel
theorem dX11_worksOut_101 : decode cX11_worksOut 101 = .ok (.getfield 45, 3) := by decide +kernel
theorem dX11_worksOut_104 : decode cX11_worksOut 104 = .ok (.iload_n 2, 1) := by decide +kernel
theorem dX11_worksOut_105 : decode cX11_worksOut 105 = .ok (.iconst 1, 1) := by decide +kernel
theorem dX11_worksOut_106 : decode cX11_worksOut 106 = .ok (.isub, 1) := by decide +kernel
theorem dX11_worksOut_107 : decode cX11_worksOut 107 = .ok (.iaload, 1) := by decide +kernel
theorem dX11_worksOut_108 : decode cX11_worksOut 108 = .ok (.ifCond .ne 7, 3) := by decide +kernel
theorem dX11_worksOut_111 : decode cX11_worksOut 111 = .ok (.iconst 1, 1) := by decide +kernel
theorem dX11_worksOut_112 : decode cX11_worksOut 112 = .ok (.goto 4, 3) := by decide +kernel
theorem dX11_worksOut_115 : decode cX11_worksOut 115 = .ok (.iconst 0, 1) := by decide +kernel
theorem dX11_worksOut_116 : decode cX11_worksOut 116 = .ok (.iastore, 1) := by decide +kernel
theorem dX11_worksOut_117 : decode cX11_worksOut 117 = .ok (.goto 33, 3) := by decide +kernel
theorem dX11_worksOut_120 : decode cX11_worksOut 120 = .ok (.iinc 2 (-1), 3) := by decide +kernel
theorem dX11_worksOut_123 : decode cX11_worksOut 123 = .ok (.aload_n 0, 1) := by decide +kernel
theorem dX11_worksOut_124 : decode cX11_worksOut 124 = .ok (.getfield 45, 3) := by decide +kernel
theorem dX11_worksOut_127 : decode cX11_worksOut 127 = .ok (.iload_n 2, 1) := by decide +kernel
theorem dX11_worksOut_128 : decode cX11_worksOut 128 = .ok (.iconst 1, 1) := by decide +kernel
theorem dX11_worksOut_129 : decode cX11_worksOut 129 = .ok (.isub, 1) := by decide +kernel
theorem dX11_worksOut_130 : decode cX11_worksOut 130 = .ok (.iload 5, 2) := by decide +kernel
theorem dX11_worksOut_132 : decode cX11_worksOut 132 = .ok (.aload_n 0, 1) := by decide +kernel
theorem dX11_worksOut_133 : decode cX11_worksOut 133 = .ok (.getfield 45, 3) := by decide +kernel
theorem dX11_worksOut_136 : decode cX11_worksOut 136 = .ok (.iload_n 2, 1) := by decide +kernel
theorem dX11_worksOut_137 : decode cX11_worksOut 137 = .ok (.iconst 1, 1) := by decide +kernel
theorem dX11_worksOut_138 : decode cX11_worksOut 138 = .ok (.isub, 1) := by decide +kernel
theorem dX11_worksOut_139 : decode cX11_worksOut 139 = .ok (.iaload, 1) := by decide +kernel
theorem dX11_worksOut_140 : decode cX11_worksOut 140 = .ok (.aload_n 0, 1) := by decide +kernel
theorem dX11_worksOut_141 : decode cX11_worksOut 141 = .ok (.getfield 45, 3) := by decide +kernel
theorem dX11_worksOut_144 : decode cX11_worksOut 144 = .ok (.iload_n 2, 1) := by decide +kernel
theorem dX11_worksOut_145 : decode cX11_worksOut 145 = .ok (.iaload, 1) := by decide +kernel
theorem dX11_worksOut_146 : decode cX11_worksOut 146 = .ok (.invokestatic 251, 3) := by decide +kernel
theorem dX11_worksOut_149 : decode cX11_worksOut 149 = .ok (.iastore, 1) := by decide +kernel
theorem dX11_worksOut_150 : decode cX11_worksOut 150 = .ok (.iinc 4 1, 3) := by decide +kernel
theorem dX11_worksOut_153 : decode cX11_worksOut 153 = .ok (.goto (-132), 3) := by decide +kernel
theorem dX11_worksOut_156 : decode cX11_worksOut 156 = .ok (.aload_n 0, 1) := by decide +kernel
theorem dX11_worksOut_157 : decode cX11_worksOut 157 = .ok (.getfield 45, 3) := by decide +kernel
theorem dX11_worksOut_160 : decode cX11_worksOut 160 = .ok (.iconst 0, 1) := by decide +kernel
theorem dX11_worksOut_161 : decode cX11_worksOut 161 = .ok (.iaload, 1) := by decide +kernel
theorem dX11_worksOut_162 : decode cX11_worksOut 162 = .ok (.ireturn, 1) := by decide +kernel
theorem dX11_isSheet_0 : decode cX11_isSheet 0 = .ok (.iload_n 0, 1) := by decide +kernel
theorem dX11_isSheet_1 : decode cX11_isSheet 1 = .ok (.iconst 0, 1) := by decide +kernel
theorem dX11_isSheet_2 : decode cX11_isSheet 2 = .ok (.iconst 3, 1) := by decide +kernel
theorem dX11_isSheet_3 : decode cX11_isSheet 3 = .ok (.invokestatic 78, 3) := by decide +kernel
theorem dX11_isSheet_6 : decode cX11_isSheet 6 = .ok (.ireturn, 1) := by decide +kernel
theorem dX11_isSlot_0 : decode cX11_isSlot 0 = .ok (.iload_n 0, 1) := by decide +kernel
theorem dX11_isSlot_1 : decode cX11_isSlot 1 = .ok (.iconst 0, 1) := by decide +kernel
theorem dX11_isSlot_2 : decode cX11_isSlot 2 = .ok (.iconst 4, 1) := by decide +kernel
theorem dX11_isSlot_3 : decode cX11_isSlot 3 = .ok (.invokestatic 78, 3) := by decide +kernel
theorem dX11_isSlot_6 : decode cX11_isSlot 6 = .ok (.ireturn, 1) := by decide +kernel
theorem dX11_sheet_0 : decode cX11_sheet 0 = .ok (.iload_n 1, 1) := by decide +kernel
theorem dX11_sheet_1 : decode cX11_sheet 1 = .ok (.invokestatic 178, 3) := by decide +kernel
theorem dX11_sheet_4 : decode cX11_sheet 4 = .ok (.ifCond .eq 22, 3) := by decide +kernel
theorem dX11_sheet_7 : decode cX11_sheet 7 = .ok (.iload_n 2, 1) := by decide +kernel
theorem dX11_sheet_8 : decode cX11_sheet 8 = .ok (.iconst (-1), 1) := by decide +kernel
theorem dX11_sheet_9 : decode cX11_sheet 9 = .ok (.iconst 1, 1) := by decide +kernel
theorem dX11_sheet_10 : decode cX11_sheet 10 = .ok (.invokestatic 78, 3) := by decide +kernel
theorem dX11_sheet_13 : decode cX11_sheet 13 = .ok (.ifCond .eq 13, 3) := by decide +kernel
theorem dX11_sheet_16 : decode cX11_sheet 16 = .ok (.iload_n 2, 1) := by decide +kernel
theorem dX11_sheet_17 : decode cX11_sheet 17 = .ok (.ifCond .lt 12, 3) := by decide +kernel
theorem dX11_sheet_20 : decode cX11_sheet 20 = .ok (.iload_n 3, 1) := by decide +kernel
theorem dX11_sheet_21 : decode cX11_sheet 21 = .ok (.bipush 24, 2) := by decide +kernel
theorem dX11_sheet_23 : decode cX11_sheet 23 = .ok (.if_icmp .le 6, 3) := by decide +kernel
theorem dX11_sheet_26 : decode cX11_sheet 26 = .ok (.ldc 90, 2) := by decide +kernel
theorem dX11_sheet_28 : decode cX11_sheet 28 = .ok (.ireturn, 1) := by decide +kernel
theorem dX11_sheet_29 : decode cX11_sheet 29 = .ok (.iload_n 2, 1) := by decide +kernel
theorem dX11_sheet_30 : decode cX11_sheet 30 = .ok (.ifCond .lt 10, 3) := by decide +kernel
theorem dX11_sheet_33 : decode cX11_sheet 33 = .ok (.iload_n 3, 1) := by decide +kernel
theorem dX11_sheet_34 : decode cX11_sheet 34 = .ok (.ifCond .ge 6, 3) := by decide +kernel
theorem dX11_sheet_37 : decode cX11_sheet 37 = .ok (.ldc 254, 2) := by decide +kernel
theorem dX11_sheet_39 : decode cX11_sheet 39 = .ok (.ireturn, 1) := by decide +kernel
theorem dX11_sheet_40 : decode cX11_sheet 40 = .ok (.aload_n 0, 1) := by decide +kernel
theorem dX11_sheet_41 : decode cX11_sheet 41 = .ok (.getfield 51, 3) := by decide +kernel
theorem dX11_sheet_44 : decode cX11_sheet 44 = .ok (.iload_n 1, 1) := by decide +kernel
theorem dX11_sheet_45 : decode cX11_sheet 45 = .ok (.iload_n 2, 1) := by decide +kernel
theorem dX11_sheet_46 : decode cX11_sheet 46 = .ok (.iastore, 1) := by decide +kernel
theorem dX11_sheet_47 : decode cX11_sheet 47 = .ok (.aload_n 0, 1) := by decide +kernel
theorem dX11_sheet_48 : decode cX11_sheet 48 = .ok (.getfield 54, 3) := by decide +kernel
theorem dX11_sheet_51 : decode cX11_sheet 51 = .ok (.iload_n 1, 1) := by decide +kernel
theorem dX11_sheet_52 : decode cX11_sheet 52 = .ok (.iload_n 2, 1) := by decide +kernel
theorem dX11_sheet_53 : decode cX11_sheet 53 = .ok (.ifCond .ge 7, 3) := by decide +kernel
theorem dX11_sheet_56 : decode cX11_sheet 56 = .ok (.iconst 0, 1) := by decide +kernel
theorem dX11_sheet_57 : decode cX11_sheet 57 = .ok (.goto 4, 3) := by decide +kernel
theorem dX11_sheet_60 : decode cX11_sheet 60 = .ok (.iload_n 3, 1) := by decide +kernel
theorem dX11_sheet_61 : decode cX11_sheet 61 = .ok (.iastore, 1) := by decide +kernel
theorem dX11_sheet_62 : decode cX11_sheet 62 = .ok (.iconst 0, 1) := by decide +kernel
theorem dX11_sheet_63 : decode cX11_sheet 63 = .ok (.istore 4, 2) := by decide +kernel
theorem dX11_sheet_65 : decode cX11_sheet 65 = .ok (.iload 4, 2) := by decide +kernel
theorem dX11_sheet_67 : decode cX11_sheet 67 = .ok (.bipush 24, 2) := by decide +kernel
theorem dX11_sheet_69 : decode cX11_sheet 69 = .ok (.if_icmp .ge 22, 3) := by decide +kernel
theorem dX11_sheet_72 : decode cX11_sheet 72 = .ok (.aload_n 0, 1) := by decide +kernel
theorem dX11_sheet_73 : decode cX11_sheet 73 = .ok (.getfield 57, 3) := by decide +kernel
theorem dX11_sheet_76 : decode cX11_sheet 76 = .ok (.bipush 24, 2) := by decide +kernel
theorem dX11_sheet_78 : decode cX11_sheet 78 = .ok (.iload_n 1, 1) := by decide +kernel
theorem dX11_sheet_79 : decode cX11_sheet 79 = .ok (.imul, 1) := by decide +kernel
theorem dX11_sheet_80 : decode cX11_sheet 80 = .ok (.iload 4, 2) := by decide +kernel
theorem dX11_sheet_82 : decode cX11_sheet 82 = .ok (.iadd, 1) := by decide +kernel
theorem dX11_sheet_83 : decode cX11_sheet 83 = .ok (.iconst 0, 1) := by decide +kernel
theorem dX11_sheet_84 : decode cX11_sheet 84 = .ok (.iastore, 1) := by decide +kernel
theorem dX11_sheet_85 : decode cX11_sheet 85 = .ok (.iinc 4 1, 3) := by decide +kernel
theorem dX11_sheet_88 : decode cX11_sheet 88 = .ok (.goto (-23), 3) := by decide +kernel
theorem dX11_sheet_91 : decode cX11_sheet 91 = .ok (.aload_n 0, 1) := by decide +kernel
theorem dX11_sheet_92 : decode cX11_sheet 92 = .ok (.getfield 54, 3) := by decide +kernel
theorem dX11_sheet_95 : decode cX11_sheet 95 = .ok (.iload_n 1, 1) := by decide +kernel
theorem dX11_sheet_96 : decode cX11_sheet 96 = .ok (.iaload, 1) := by decide +kernel
theorem dX11_sheet_97 : decode cX11_sheet 97 = .ok (.ireturn, 1) := by decide +kernel
theorem dX11_mark_0 : decode cX11_mark 0 = .ok (.iload_n 1, 1) := by decide +kernel
theorem dX11_mark_1 : decode cX11_mark 1 = .ok (.invokestatic 178, 3) := by decide +kernel
theorem dX11_mark_4 : decode cX11_mark 4 = .ok (.ifCond .ne 6, 3) := by decide +kernel
theorem dX11_mark_7 : decode cX11_mark 7 = .ok (.ldc 90, 2) := by decide +kernel
theorem dX11_mark_9 : decode cX11_mark 9 = .ok (.ireturn, 1) := by decide +kernel
theorem dX11_mark_10 : decode cX11_mark 10 = .ok (.aload_n 0, 1) := by decide +kernel
theorem dX11_mark_11 : decode cX11_mark 11 = .ok (.getfield 51, 3) := by decide +kernel
theorem dX11_mark_14 : decode cX11_mark 14 = .ok (.iload_n 1, 1) := by decide +kernel
theorem dX11_mark_15 : decode cX11_mark 15 = .ok (.iaload, 1) := by decide +kernel
theorem dX11_mark_16 : decode cX11_mark 16 = .ok (.ifCond .ge 6, 3) := by decide +kernel
theorem dX11_mark_19 : decode cX11_mark 19 = .ok (.ldc 181, 2) := by decide +kernel
theorem dX11_mark_21 : decode cX11_mark 21 = .ok (.ireturn, 1) := by decide +kernel
theorem dX11_mark_22 : decode cX11_mark 22 = .ok (.iload_n 2, 1) := by decide +kernel
theorem dX11_mark_23 : decode cX11_mark 23 = .ok (.iconst 0, 1) := by decide +kernel
theorem dX11_mark_24 : decode cX11_mark 24 = .ok (.aload_n 0, 1) := by decide +kernel
theorem dX11_mark_25 : decode cX11_mark 25 = .ok (.getfield 54, 3) := by decide +kernel
theorem dX11_mark_28 : decode cX11_mark 28 = .ok (.iload_n 1, 1) := by decide +kernel
theorem dX11_mark_29 : decode cX11_mark 29 = .ok (.iaload, 1) := by decide +kernel
theorem dX11_mark_30 : decode cX11_mark 30 = .ok (.iconst 1, 1) := by decide +kernel
theorem dX11_mark_31 : decode cX11_mark 31 = .ok (.isub, 1) := by decide +kernel
theorem dX11_mark_32 : decode cX11_mark 32 = .ok (.invokestatic 78, 3) := by decide +kernel
theorem dX11_mark_35 : decode cX11_mark 35 = .ok (.ifCond .ne 6, 3) := by decide +kernel
theorem dX11_mark_38 : decode cX11_mark 38 = .ok (.ldc 255, 2) := by decide +kernel
theorem dX11_mark_40 : decode cX11_mark 40 = .ok (.ireturn, 1) := by decide +kernel
theorem dX11_mark_41 : decode cX11_mark 41 = .ok (.aload_n 0, 1) := by decide +kernel
theorem dX11_mark_42 : decode cX11_mark 42 = .ok (.getfield 51, 3) := by decide +kernel
theorem dX11_mark_45 : decode cX11_mark 45 = .ok (.iload_n 1, 1) := by decide +kernel
theorem dX11_mark_46 : decode cX11_mark 46 = .ok (.iaload, 1) := by decide +kernel
theorem dX11_mark_47 : decode cX11_mark 47 = .ok (.ifCond .ne 12, 3) := by decide +kernel
theorem dX11_mark_50 : decode cX11_mark 50 = .ok (.iload_n 3, 1) := by decide +kernel
theorem dX11_mark_51 : decode cX11_mark 51 = .ok (.ldc 152, 2) := by decide +kernel
theorem dX11_mark_53 : decode cX11_mark 53 = .ok (.if_icmp .ne 6, 3) := by decide +kernel
theorem dX11_mark_56 : decode cX11_mark 56 = .ok (.ldc 133, 2) := by decide +kernel
theorem dX11_mark_58 : decode cX11_mark 58 = .ok (.ireturn, 1) := by decide +kernel
theorem dX11_mark_59 : decode cX11_mark 59 = .ok (.aload_n 0, 1) := by decide +kernel
theorem dX11_mark_60 : decode cX11_mark 60 = .ok (.getfield 51, 3) := by decide +kernel
theorem dX11_mark_63 : decode cX11_mark 63 = .ok (.iload_n 1, 1) := by decide +kernel
theorem dX11_mark_64 : decode cX11_mark 64 = .ok (.iaload, 1) := by decide +kernel
theorem dX11_mark_65 : decode cX11_mark 65 = .ok (.iconst 1, 1) := by decide +kernel
theorem dX11_mark_66 : decode cX11_mark 66 = .ok (.if_icmp .ne 25, 3) := by decide +kernel
theorem dX11_mark_69 : decode cX11_mark 69 = .ok (.iload_n 3, 1) := by decide +kernel
theorem dX11_mark_70 : decode cX11_mark 70 = .ok (.ldc 152, 2) := by decide +kernel
theorem dX11_mark_72 : decode cX11_mark 72 = .ok (.if_icmp .eq 19, 3) := by decide +kernel
theorem dX11_mark_75 : decode cX11_mark 75 = .ok (.iload_n 3, 1) := by decide +kernel
theorem dX11_mark_76 : decode cX11_mark 76 = .ok (.ldc_w 256, 3) := by decide +kernel
theorem dX11_mark_79 : decode cX11_mark 79 = .ok (.ldc_w 257, 3) := by decide +kernel
theorem dX11_mark_82 : decode cX11_mark 82 = .ok (.invokestatic 78, 3) := by decide +kernel
theorem dX11_mark_85 : decode cX11_mark 85 = .ok (.ifCond .ne 6, 3) := by decide +kernel
theorem dX11_mark_88 : decode cX11_mark 88 = .ok (.ldc 90, 2) := by decide +kernel
theorem dX11_mark_90 : decode cX11_mark 90 = .ok (.ireturn, 1) := by decide +kernel
theorem dX11_mark_91 : decode cX11_mark 91 = .ok (.aload_n 0, 1) := by decide +kernel
theorem dX11_mark_92 : decode cX11_mark 92 = .ok (.getfield 57, 3) := by decide +kernel
theorem dX11_mark_95 : decode cX11_mark 95 = .ok (.bipush 24, 2) := by decide +kernel
theorem dX11_mark_97 : decode cX11_mark 97 = .ok (.iload_n 1, 1) := by decide +kernel
theorem dX11_mark_98 : decode cX11_mark 98 = .ok (.imul, 1) := by decide +kernel
theorem dX11_mark_99 : decode cX11_mark 99 = .ok (.iload_n 2, 1) := by decide +kernel
theorem dX11_mark_100 : decode cX11_mark 100 = .ok (.iadd, 1) := by decide +kernel
theorem dX11_mark_101 : decode cX11_mark 101 = .ok (.aload_n 0, 1) := by decide +kernel
theorem dX11_mark_102 : decode cX11_mark 102 = .ok (.getfield 51, 3) := by decide +kernel
theorem dX11_mark_105 : decode cX11_mark 105 = .ok (.iload_n 1, 1) := by decide +kernel
theorem dX11_mark_106 : decode cX11_mark 106 = .ok (.iaload, 1) := by decide +kernel
theorem dX11_mark_107 : decode cX11_mark 107 = .ok (.ifCond .ne 8, 3) := by decide +kernel
theorem dX11_mark_110 : decode cX11_mark 110 = .ok (.iload_n 3, 1) := by decide +kernel
theorem dX11_mark_111 : decode cX11_mark 111 = .ok (.i2s, 1) := by decide +kernel
theorem dX11_mark_112 : decode cX11_mark 112 = .ok (.goto 4, 3) := by decide +kernel
theorem dX11_mark_115 : decode cX11_mark 115 = .ok (.iload_n 3, 1) := by decide +kernel
theorem dX11_mark_116 : decode cX11_mark 116 = .ok (.iastore, 1) := by decide +kernel
theorem dX11_mark_117 : decode cX11_mark 117 = .ok (.iconst 1, 1) := by decide +kernel
theorem dX11_mark_118 : decode cX11_mark 118 = .ok (.ireturn, 1) := by decide +kernel
theorem dX11_pour_0 : decode cX11_pour 0 = .ok (.iload_n 1, 1) := by decide +kernel
theorem dX11_pour_1 : decode cX11_pour 1 = .ok (.invokestatic 178, 3) := by decide +kernel
theorem dX11_pour_4 : decode cX11_pour 4 = .ok (.ifCond .ne 6, 3) := by decide +kernel
theorem dX11_pour_7 : decode cX11_pour 7 = .ok (.ldc 90, 2) := by decide +kernel
theorem dX11_pour_9 : decode cX11_pour 9 = .ok (.ireturn, 1) := by decide +kernel
theorem dX11_pour_10 : decode cX11_pour 10 = .ok (.aload_n 0, 1) := by decide +kernel
theorem dX11_pour_11 : decode cX11_pour 11 = .ok (.getfield 51, 3) := by decide +kernel
theorem dX11_pour_14 : decode cX11_pour 14 = .ok (.iload_n 1, 1) := by decide +kernel
theorem dX11_pour_15 : decode cX11_pour 15 = .ok (.iaload, 1) := by decide +kernel
theorem dX11_pour_16 : decode cX11_pour 16 = .ok (.ifCond .ge 6, 3) := by decide +kernel
theorem dX11_pour_19 : decode cX11_pour 19 = .ok (.ldc 181, 2) := by decide +kernel
theorem dX11_pour_21 : decode cX11_pour 21 = .ok (.ireturn, 1) := by decide +kernel
theorem dX11_pour_22 : decode cX11_pour 22 = .ok (.iconst 0, 1) := by decide +kernel
theorem dX11_pour_23 : decode cX11_pour 23 = .ok (.istore_n 2, 1) := by decide +kernel
theorem dX11_pour_24 : decode cX11_pour 24 = .ok (.iconst 0, 1) := by decide +kernel
theorem dX11_pour_25 : decode cX11_pour 25 = .ok (.istore_n 3, 1) := by decide +kernel
theorem dX11_pour_26 : decode cX11_pour 26 = .ok (.iload_n 3, 1) := by decide +kernel
theorem dX11_pour_27 : decode cX11_pour 27 = .ok (.aload_n 0, 1) := by decide +kernel
theorem dX11_pour_28 : decode cX11_pour 28 = .ok (.getfield 54, 3) := by decide +kernel
theorem dX11_pour_31 : decode cX11_pour 31 = .ok (.iload_n 1, 1) := by decide +kernel
theorem dX11_pour_32 : decode cX11_pour 32 = .ok (.iaload, 1) := by decide +kernel
theorem dX11_pour_33 : decode cX11_pour 33 = .ok (.if_icmp .ge 86, 3) := by decide +kernel
theorem dX11_pour_36 : decode cX11_pour 36 = .ok (.iload_n 3, 1) := by decide +kernel
theorem dX11_pour_37 : decode cX11_pour 37 = .ok (.aload_n 0, 1) := by decide +kernel
theorem dX11_pour_38 : decode cX11_pour 38 = .ok (.getfield 9, 3) := by decide +kernel
theorem dX11_pour_41 : decode cX11_pour 41 = .ok (.iconst 1, 1) := by decide +kernel
theorem dX11_pour_42 : decode cX11_pour 42 = .ok (.iaload, 1) := by decide +kernel
theorem dX11_pour_43 : decode cX11_pour 43 = .ok (.if_icmp .ge 76, 3) := by decide +kernel
theorem dX11_pour_46 : decode cX11_pour 46 = .ok (.aload_n 0, 1) := by decide +kernel
theorem dX11_pour_47 : decode cX11_pour 47 = .ok (.getfield 57, 3) := by decide +kernel
theorem dX11_pour_50 : decode cX11_pour 50 = .ok (.bipush 24, 2) := by decide +kernel
theorem dX11_pour_52 : decode cX11_pour 52 = .ok (.iload_n 1, 1) := by decide +kernel
theorem dX11_pour_53 : decode cX11_pour 53 = .ok (.imul, 1) := by decide +kernel
theorem dX11_pour_54 : decode cX11_pour 54 = .ok (.iload_n 3, 1) := by decide +kernel
theorem dX11_pour_55 : decode cX11_pour 55 = .ok (.iadd, 1) := by decide +kernel
theorem dX11_pour_56 : decode cX11_pour 56 = .ok (.iaload, 1) := by decide +kernel
theorem dX11_pour_57 : decode cX11_pour 57 = .ok (.istore 4, 2) := by decide +kernel
theorem dX11_pour_59 : decode cX11_pour 59 = .ok (.iload 4, 2) := by decide +kernel
theorem dX11_pour_61 : decode cX11_pour 61 = .ok (.ldc 152, 2) := by decide +kernel
theorem dX11_pour_63 : decode cX11_pour 63 = .ok (.if_icmp .ne 12, 3) := by decide +kernel
theorem dX11_pour_66 : decode cX11_pour 66 = .ok (.aload_n 0, 1) := by decide +kernel
theorem dX11_pour_67 : decode cX11_pour 67 = .ok (.iload_n 3, 1) := by decide +kernel
theorem dX11_pour_68 : decode cX11_pour 68 = .ok (.iconst 1, 1) := by decide +kernel
theorem dX11_pour_69 : decode cX11_pour 69 = .ok (.invokevirtual 110, 3) := by decide +kernel
theorem dX11_pour_72 : decode cX11_pour 72 = .ok (.goto 12, 3) := by decide +kernel
theorem dX11_pour_75 : decode cX11_pour 75 = .ok (.iload 4, 2) := by decide +kernel
theorem dX11_pour_77 : decode cX11_pour 77 = .ok (.iconst 0, 1) := by decide +kernel
theorem dX11_pour_78 : decode cX11_pour 78 = .ok (.sipush 999, 3) := by decide +kernel
theorem dX11_pour_81 : decode cX11_pour 81 = .ok (.invokestatic 107, 3) := by decide +kernel
theorem dX11_pour_84 : decode cX11_pour 84 = .ok (.istore 5, 2) := by decide +kernel
theorem dX11_pour_86 : decode cX11_pour 86 = .ok (.iload_n 2, 1) := by decide +kernel
theorem dX11_pour_87 : decode cX11_pour 87 = .ok (.aload_n 0, 1) := by decide +kernel
theorem dX11_pour_88 : decode cX11_pour 88 = .ok (.bipush 76, 2) := by decide +kernel
theorem dX11_pour_90 : decode cX11_pour 90 = .ok (.iconst 4, 1) := by decide +kernel
theorem dX11_pour_91 : decode cX11_pour 91 = .ok (.iload_n 3, 1) := by decide +kernel
theorem dX11_pour_92 : decode cX11_pour 92 = .ok (.imul, 1) := by decide +kernel
theorem dX11_pour_93 : decode cX11_pour 93 = .ok (.iadd, 1) := by decide +kernel
theorem dX11_pour_94 : decode cX11_pour 94 = .ok (.iconst 1, 1) := by decide +kernel
theorem dX11_pour_95 : decode cX11_pour 95 = .ok (.iadd, 1) := by decide +kernel
theorem dX11_pour_96 : decode cX11_pour 96 = .ok (.iload 5, 2) := by decide +kernel
theorem dX11_pour_98 : decode cX11_pour 98 = .ok (.invokevirtual 134, 3) := by decide +kernel
theorem dX11_pour_101 : decode cX11_pour 101 = .ok (.iload 5, 2) := by decide +kernel
theorem dX11_pour_103 : decode cX11_pour 103 = .ok (.if_icmp .ne 7, 3) := by decide +kernel
theorem dX11_pour_106 : decode cX11_pour 106 = .ok (.iconst 0, 1) := by decide +kernel
theorem dX11_pour_107 : decode cX11_pour 107 = .ok (.goto 4, 3) := by decide +kernel
theorem dX11_pour_110 : decode cX11_pour 110 = .ok (.iconst 1, 1) := by decide +kernel
theorem dX11_pour_111 : decode cX11_pour 111 = .ok (.iadd, 1) := by decide +kernel
theorem dX11_pour_112 : decode cX11_pour 112 = .ok (.istore_n 2, 1) := by decide +kernel
theorem dX11_pour_113 : decode cX11_pour 113 = .ok (.iinc 3 1, 3) := by decide +kernel
theorem dX11_pour_116 : decode cX11_pour 116 = .ok (.goto (-90), 3) := by decide +kernel
theorem dX11_pour_119 : decode cX11_pour 119 = .ok (.iload_n 2, 1) := by decide +kernel
theorem dX11_pour_120 : decode cX11_pour 120 = .ok (.ireturn, 1) := by decide +kernel
theorem dX11_reads_0 : decode cX11_reads 0 = .ok (.iload_n 1, 1) := by decide +kernel
theorem dX11_reads_1 : decode cX11_reads 1 = .ok (.invokestatic 178, 3) := by decide +kernel
theorem dX11_reads_4 : decode cX11_reads 4 = .ok (.ifCond .ne 6, 3) := by decide +kernel
theorem dX11_reads_7 : decode cX11_reads 7 = .ok (.ldc 90, 2) := by decide +kernel
theorem dX11_reads_9 : decode cX11_reads 9 = .ok (.ireturn, 1) := by decide +kernel
theorem dX11_reads_10 : decode cX11_reads 10 = .ok (.aload_n 0, 1) := by decide +kernel
theorem dX11_reads_11 : decode cX11_reads 11 = .ok (.getfield 51, 3) := by decide +kernel
theorem dX11_reads_14 : decode cX11_reads 14 = .ok (.iload_n 1, 1) := by decide +kernel
theorem dX11_reads_15 : decode cX11_reads 15 = .ok (.iaload, 1) := by decide +kernel
theorem dX11_reads_16 : decode cX11_reads 16 = .ok (.ifCond .ge 6, 3) := by decide +kernel
theorem dX11_reads_19 : decode cX11_reads 19 = .ok (.ldc 181, 2) := by decide +kernel
theorem dX11_reads_21 : decode cX11_reads 21 = .ok (.ireturn, 1) := by decide +kernel
theorem dX11_reads_22 : decode cX11_reads 22 = .ok (.iconst 0, 1) := by decide +kernel
theorem dX11_reads_23 : decode cX11_reads 23 = .ok (.istore_n 2, 1) := by decide +kernel
theorem dX11_reads_24 : decode cX11_reads 24 = .ok (.iload_n 2, 1) := by decide +kernel
theorem dX11_reads_25 : decode cX11_reads 25 = .ok (.aload_n 0, 1) := by decide +kernel
theorem dX11_reads_26 : decode cX11_reads 26 = .ok (.getfield 54, 3) := by decide +kernel
theorem dX11_reads_29 : decode cX11_reads 29 = .ok (.iload_n 1, 1) := by decide +kernel
theorem dX11_reads_30 : decode cX11_reads 30 = .ok (.iaload, 1) := by decide +kernel
theorem dX11_reads_31 : decode cX11_reads 31 = .ok (.if_icmp .ge 57, 3) := by decide +kernel
theorem dX11_reads_34 : decode cX11_reads 34 = .ok (.aload_n 0, 1) := by decide +kernel
theorem dX11_reads_35 : decode cX11_reads 35 = .ok (.getfield 57, 3) := by decide +kernel
theorem dX11_reads_38 : decode cX11_reads 38 = .ok (.bipush 24, 2) := by decide +kernel
theorem dX11_reads_40 : decode cX11_reads 40 = .ok (.iload_n 1, 1) := by decide +kernel
theorem dX11_reads_41 : decode cX11_reads 41 = .ok (.imul, 1) := by decide +kernel
theorem dX11_reads_42 : decode cX11_reads 42 = .ok (.iload_n 2, 1) := by decide +kernel
theorem dX11_reads_43 : decode cX11_reads 43 = .ok (.iadd, 1) := by decide +kernel
theorem dX11_reads_44 : decode cX11_reads 44 = .ok (.iaload, 1) := by decide +kernel
theorem dX11_reads_45 : decode cX11_reads 45 = .ok (.istore_n 3, 1) := by decide +kernel
theorem dX11_reads_46 : decode cX11_reads 46 = .ok (.iload_n 3, 1) := by decide +kernel
theorem dX11_reads_47 : decode cX11_reads 47 = .ok (.ldc 152, 2) := by decide +kernel
theorem dX11_reads_49 : decode cX11_reads 49 = .ok (.if_icmp .eq 33, 3) := by decide +kernel
theorem dX11_reads_52 : decode cX11_reads 52 = .ok (.iload_n 2, 1) := by decide +kernel
theorem dX11_reads_53 : decode cX11_reads 53 = .ok (.aload_n 0, 1) := by decide +kernel
theorem dX11_reads_54 : decode cX11_reads 54 = .ok (.getfield 9, 3) := by decide +kernel
theorem dX11_reads_57 : decode cX11_reads 57 = .ok (.bipush 7, 2) := by decide +kernel
theorem dX11_reads_59 : decode cX11_reads 59 = .ok (.iaload, 1) := by decide +kernel
theorem dX11_reads_60 : decode cX11_reads 60 = .ok (.if_icmp .ge 20, 3) := by decide +kernel
theorem dX11_reads_63 : decode cX11_reads 63 = .ok (.iload_n 3, 1) := by decide +kernel
theorem dX11_reads_64 : decode cX11_reads 64 = .ok (.aload_n 0, 1) := by decide +kernel
theorem dX11_reads_65 : decode cX11_reads 65 = .ok (.getfield 9, 3) := by decide +kernel
theorem dX11_reads_68 : decode cX11_reads 68 = .ok (.bipush 16, 2) := by decide +kernel
theorem dX11_reads_70 : decode cX11_reads 70 = .ok (.iconst 2, 1) := by decide +kernel
theorem dX11_reads_71 : decode cX11_reads 71 = .ok (.iload_n 2, 1) := by decide +kernel
theorem dX11_reads_72 : decode cX11_reads 72 = .ok (.imul, 1) := by decide +kernel
theorem dX11_reads_73 : decode cX11_reads 73 = .ok (.iadd, 1) := by decide +kernel
theorem dX11_reads_74 : decode cX11_reads 74 = .ok (.iconst 1, 1) := by decide +kernel
theorem dX11_reads_75 : decode cX11_reads 75 = .ok (.iadd, 1) := by decide +kernel
theorem dX11_reads_76 : decode cX11_reads 76 = .ok (.iaload, 1) := by decide +kernel
theorem dX11_reads_77 : decode cX11_reads 77 = .ok (.if_icmp .eq 5, 3) := by decide +kernel
theorem dX11_reads_80 : decode cX11_reads 80 = .ok (.iload_n 2, 1) := by decide +kernel
theorem dX11_reads_81 : decode cX11_reads 81 = .ok (.ireturn, 1) := by decide +kernel
theorem dX11_reads_82 : decode cX11_reads 82 = .ok (.iinc 2 1, 3) := by decide +kernel
theorem dX11_reads_85 : decode cX11_reads 85 = .ok (.goto (-61), 3) := by decide +kernel
theorem dX11_reads_88 : decode cX11_reads 88 = .ok (.ldc 152, 2) := by decide +kernel
theorem dX11_reads_90 : decode cX11_reads 90 = .ok (.ireturn, 1) := by decide +kernel
theorem dX11_copy_0 : decode cX11_copy 0 = .ok (.iload_n 1, 1) := by decide +kernel
theorem dX11_copy_1 : decode cX11_copy 1 = .ok (.invokestatic 178, 3) := by decide +kernel
theorem dX11_copy_4 : decode cX11_copy 4 = .ok (.ifCond .eq 10, 3) := by decide +kernel
theorem dX11_copy_7 : decode cX11_copy 7 = .ok (.iload_n 3, 1) := by decide +kernel
theorem dX11_copy_8 : decode cX11_copy 8 = .ok (.invokestatic 178, 3) := by decide +kernel
theorem dX11_copy_11 : decode cX11_copy 11 = .ok (.ifCond .ne 6, 3) := by decide +kernel
theorem dX11_copy_14 : decode cX11_copy 14 = .ok (.ldc 90, 2) := by decide +kernel
theorem dX11_copy_16 : decode cX11_copy 16 = .ok (.ireturn, 1) := by decide +kernel
theorem dX11_copy_17 : decode cX11_copy 17 = .ok (.aload_n 0, 1) := by decide +kernel
theorem dX11_copy_18 : decode cX11_copy 18 = .ok (.getfield 51, 3) := by decide +kernel
theorem dX11_copy_21 : decode cX11_copy 21 = .ok (.iload_n 1, 1) := by decide +kernel
theorem dX11_copy_22 : decode cX11_copy 22 = .ok (.iaload, 1) := by decide +kernel
theorem dX11_copy_23 : decode cX11_copy 23 = .ok (.ifCond .lt 12, 3) := by decide +kernel
theorem dX11_copy_26 : decode cX11_copy 26 = .ok (.aload_n 0, 1) := by decide +kernel
theorem dX11_copy_27 : decode cX11_copy 27 = .ok (.getfield 51, 3) := by decide +kernel
theorem dX11_copy_30 : decode cX11_copy 30 = .ok (.iload_n 3, 1) := by decide +kernel
theorem dX11_copy_31 : decode cX11_copy 31 = .ok (.iaload, 1) := by decide +kernel
theorem dX11_copy_32 : decode cX11_copy 32 = .ok (.ifCond .ge 6, 3) := by decide +kernel
theorem dX11_copy_35 : decode cX11_copy 35 = .ok (.ldc 181, 2) := by decide +kernel
theorem dX11_copy_37 : decode cX11_copy 37 = .ok (.ireturn, 1) := by decide +kernel
theorem dX11_copy_38 : decode cX11_copy 38 = .ok (.aload_n 0, 1) := by decide +kernel
theorem dX11_copy_39 : decode cX11_copy 39 = .ok (.getfield 51, 3) := by decide +kernel
theorem dX11_copy_42 : decode cX11_copy 42 = .ok (.iload_n 1, 1) := by decide +kernel
theorem dX11_copy_43 : decode cX11_copy 43 = .ok (.iaload, 1) := by decide +kernel
theorem dX11_copy_44 : decode cX11_copy 44 = .ok (.aload_n 0, 1) := by decide +kernel
theorem dX11_copy_45 : decode cX11_copy 45 = .ok (.getfield 51, 3) := by decide +kernel
theorem dX11_copy_48 : decode cX11_copy 48 = .ok (.iload_n 3, 1) := by decide +kernel
theorem dX11_copy_49 : decode cX11_copy 49 = .ok (.iaload, 1) := by decide +kernel
theorem dX11_copy_50 : decode cX11_copy 50 = .ok (.if_icmp .eq 6, 3) := by decide +kernel
theorem dX11_copy_53 : decode cX11_copy 53 = .ok (.ldc 133, 2) := by decide +kernel
theorem dX11_copy_55 : decode cX11_copy 55 = .ok (.ireturn, 1) := by decide +kernel
theorem dX11_copy_56 : decode cX11_copy 56 = .ok (.iload_n 2, 1) := by decide +kernel
theorem dX11_copy_57 : decode cX11_copy 57 = .ok (.ifCond .lt 40, 3) := by decide +kernel
theorem dX11_copy_60 : decode cX11_copy 60 = .ok (.iload 4, 2) := by decide +kernel
theorem dX11_copy_62 : decode cX11_copy 62 = .ok (.ifCond .lt 35, 3) := by decide +kernel
theorem dX11_copy_65 : decode cX11_copy 65 = .ok (.iload 5, 2) := by decide +kernel
theorem dX11_copy_67 : decode cX11_copy 67 = .ok (.ifCond .lt 30, 3) := by decide +kernel
theorem dX11_copy_70 : decode cX11_copy 70 = .ok (.iload_n 2, 1) := by decide +kernel
theorem dX11_copy_71 : decode cX11_copy 71 = .ok (.aload_n 0, 1) := by decide +kernel
theorem dX11_copy_72 : decode cX11_copy 72 = .ok (.getfield 54, 3) := by decide +kernel
theorem dX11_copy_75 : decode cX11_copy 75 = .ok (.iload_n 1, 1) := by decide +kernel
theorem dX11_copy_76 : decode cX11_copy 76 = .ok (.iaload, 1) := by decide +kernel
theorem dX11_copy_77 : decode cX11_copy 77 = .ok (.iload 5, 2) := by decide +kernel
theorem dX11_copy_79 : decode cX11_copy 79 = .ok (.isub, 1) := by decide +kernel
theorem dX11_copy_80 : decode cX11_copy 80 = .ok (.if_icmp .gt 17, 3) := by decide +kernel
theorem dX11_copy_83 : decode cX11_copy 83 = .ok (.iload 4, 2) := by decide +kernel
theorem dX11_copy_85 : decode cX11_copy 85 = .ok (.aload_n 0, 1) := by decide +kernel
theorem dX11_copy_86 : decode cX11_copy 86 = .ok (.getfield 54, 3) := by decide +kernel
theorem dX11_copy_89 : decode cX11_copy 89 = .ok (.iload_n 3, 1) := by decide +kernel
theorem dX11_copy_90 : decode cX11_copy 90 = .ok (.iaload, 1) := by decide +kernel
theorem dX11_copy_91 : decode cX11_copy 91 = .ok (.iload 5, 2) := by decide +kernel
theorem dX11_copy_93 : decode cX11_copy 93 = .ok (.isub, 1) := by decide +kernel
theorem dX11_copy_94 : decode cX11_copy 94 = .ok (.if_icmp .le 6, 3) := by decide +kernel
theorem dX11_copy_97 : decode cX11_copy 97 = .ok (.ldc 255, 2) := by decide +kernel
theorem dX11_copy_99 : decode cX11_copy 99 = .ok (.ireturn, 1) := by decide +kernel
theorem dX11_copy_100 : decode cX11_copy 100 = .ok (.iconst 0, 1) := by decide +kernel
theorem dX11_copy_101 : decode cX11_copy 101 = .ok (.istore 6, 2) := by decide +kernel
theorem dX11_copy_103 : decode cX11_copy 103 = .ok (.iload 6, 2) := by decide +kernel
theorem dX11_copy_105 : decode cX11_copy 105 = .ok (.iload 5, 2) := by decide +kernel
theorem dX11_copy_107 : decode cX11_copy 107 = .ok (.if_icmp .ge 30, 3) := by decide +kernel
theorem dX11_copy_110 : decode cX11_copy 110 = .ok (.aload_n 0, 1) := by decide +kernel
theorem dX11_copy_111 : decode cX11_copy 111 = .ok (.getfield 72, 3) := by decide +kernel
theorem dX11_copy_114 : decode cX11_copy 114 = .ok (.iload 6, 2) := by decide +kernel
theorem dX11_copy_116 : decode cX11_copy 116 = .ok (.aload_n 0, 1) := by decide +kernel
theorem dX11_copy_117 : decode cX11_copy 117 = .ok (.getfield 57, 3) := by decide +kernel
theorem dX11_copy_120 : decode cX11_copy 120 = .ok (.bipush 24, 2) := by decide +kernel
theorem dX11_copy_122 : decode cX11_copy 122 = .ok (.iload_n 1, 1) := by decide +kernel
theorem dX11_copy_123 : decode cX11_copy 123 = .ok (.imul, 1) := by decide +kernel
theorem dX11_copy_124 : decode cX11_copy 124 = .ok (.iload_n 2, 1) := by decide +kernel
theorem dX11_copy_125 : decode cX11_copy 125 = .ok (.iadd, 1) := by decide +kernel
theorem dX11_copy_126 : decode cX11_copy 126 = .ok (.iload 6, 2) := by decide +kernel
theorem dX11_copy_128 : decode cX11_copy 128 = .ok (.iadd, 1) := by decide +kernel
theorem dX11_copy_129 : decode cX11_copy 129 = .ok (.iaload, 1) := by decide +kernel
theorem dX11_copy_130 : decode cX11_copy 130 = .ok (.iastore, 1) := by decide +kernel
theorem dX11_copy_131 : decode cX11_copy 131 = .ok (.iinc 6 1, 3) := by decide +kernel
theorem dX11_copy_134 : decode cX11_copy 134 = .ok (.goto (-31), 3) := by decide +kernel
theorem dX11_copy_137 : decode cX11_copy 137 = .ok (.iconst 0, 1) := by decide +kernel
theorem dX11_copy_138 : decode cX11_copy 138 = .ok (.istore 6, 2) := by decide +kernel
theorem dX11_copy_140 : decode cX11_copy 140 = .ok (.iload 6, 2) := by decide +kernel
theorem dX11_copy_142 : decode cX11_copy 142 = .ok (.iload 5, 2) := by decide +kernel
theorem dX11_copy_144 : decode cX11_copy 144 = .ok (.if_icmp .ge 31, 3) := by decide +kernel
theorem dX11_copy_147 : decode cX11_copy 147 = .ok (.aload_n 0, 1) := by decide +kernel
theorem dX11_copy_148 : decode cX11_copy 148 = .ok (.getfield 57, 3) := by decide +kernel
theorem dX11_copy_151 : decode cX11_copy 151 = .ok (.bipush 24, 2) := by decide +kernel
theorem dX11_copy_153 : decode cX11_copy 153 = .ok (.iload_n 3, 1) := by decide +kernel
theorem dX11_copy_154 : decode cX11_copy 154 = .ok (.imul, 1) := by decide +kernel
theorem dX11_copy_155 : decode cX11_copy 155 = .ok (.iload 4, 2) := by decide +kernel
theorem dX11_copy_157 : decode cX11_copy 157 = .ok (.iadd, 1) := by decide +kernel
theorem dX11_copy_158 : decode cX11_copy 158 = .ok (.iload 6, 2) := by decide +kernel
theorem dX11_copy_160 : decode cX11_copy 160 = .ok (.iadd, 1) := by decide +kernel
theorem dX11_copy_161 : decode cX11_copy 161 = .ok (.aload_n 0, 1) := by decide +kernel
theorem dX11_copy_162 : decode cX11_copy 162 = .ok (.getfield 72, 3) := by decide +kernel
theorem dX11_copy_165 : decode cX11_copy 165 = .ok (.iload 6, 2) := by decide +kernel
theorem dX11_copy_167 : decode cX11_copy 167 = .ok (.iaload, 1) := by decide +kernel
theorem dX11_copy_168 : decode cX11_copy 168 = .ok (.iastore, 1) := by decide +kernel
theorem dX11_copy_169 : decode cX11_copy 169 = .ok (.iinc 6 1, 3) := by decide +kernel
theorem dX11_copy_172 : decode cX11_copy 172 = .ok (.goto (-32), 3) := by decide +kernel
theorem dX11_copy_175 : decode cX11_copy 175 = .ok (.iload 5, 2) := by decide +kernel
theorem dX11_copy_177 : decode cX11_copy 177 = .ok (.ireturn, 1) := by decide +kernel
theorem dX11_lay_0 : decode cX11_lay 0 = .ok (.iload_n 1, 1) := by decide +kernel
theorem dX11_lay_1 : decode cX11_lay 1 = .ok (.invokestatic 258, 3) := by decide +kernel
theorem dX11_lay_4 : decode cX11_lay 4 = .ok (.ifCond .eq 37, 3) := by decide +kernel
theorem dX11_lay_7 : decode cX11_lay 7 = .ok (.iload_n 2, 1) := by decide +kernel
theorem dX11_lay_8 : decode cX11_lay 8 = .ok (.iconst 0, 1) := by decide +kernel
theorem dX11_lay_9 : decode cX11_lay 9 = .ok (.iconst 3, 1) := by decide +kernel
theorem dX11_lay_10 : decode cX11_lay 10 = .ok (.invokestatic 78, 3) := by decide +kernel
theorem dX11_lay_13 : decode cX11_lay 13 = .ok (.ifCond .eq 28, 3) := by decide +kernel
theorem dX11_lay_16 : decode cX11_lay 16 = .ok (.iload_n 2, 1) := by decide +kernel
theorem dX11_lay_17 : decode cX11_lay 17 = .ok (.iconst 1, 1) := by decide +kernel
theorem dX11_lay_18 : decode cX11_lay 18 = .ok (.if_icmp .ne 11, 3) := by decide +kernel
theorem dX11_lay_21 : decode cX11_lay 21 = .ok (.aload_n 0, 1) := by decide +kernel
theorem dX11_lay_22 : decode cX11_lay 22 = .ok (.iload_n 3, 1) := by decide +kernel
theorem dX11_lay_23 : decode cX11_lay 23 = .ok (.invokevirtual 114, 3) := by decide +kernel
theorem dX11_lay_26 : decode cX11_lay 26 = .ok (.ifCond .eq 15, 3) := by decide +kernel
theorem dX11_lay_29 : decode cX11_lay 29 = .ok (.iload_n 2, 1) := by decide +kernel
theorem dX11_lay_30 : decode cX11_lay 30 = .ok (.iconst 2, 1) := by decide +kernel
theorem dX11_lay_31 : decode cX11_lay 31 = .ok (.if_icmp .ne 13, 3) := by decide +kernel
theorem dX11_lay_34 : decode cX11_lay 34 = .ok (.iload_n 3, 1) := by decide +kernel
theorem dX11_lay_35 : decode cX11_lay 35 = .ok (.invokestatic 178, 3) := by decide +kernel
theorem dX11_lay_38 : decode cX11_lay 38 = .ok (.ifCond .ne 6, 3) := by decide +kernel
theorem dX11_lay_41 : decode cX11_lay 41 = .ok (.ldc 90, 2) := by decide +kernel
theorem dX11_lay_43 : decode cX11_lay 43 = .ok (.ireturn, 1) := by decide +kernel
theorem dX11_lay_44 : decode cX11_lay 44 = .ok (.iload_n 2, 1) := by decide +kernel
theorem dX11_lay_45 : decode cX11_lay 45 = .ok (.iconst 2, 1) := by decide +kernel
theorem dX11_lay_46 : decode cX11_lay 46 = .ok (.if_icmp .ne 15, 3) := by decide +kernel
theorem dX11_lay_49 : decode cX11_lay 49 = .ok (.aload_n 0, 1) := by decide +kernel
theorem dX11_lay_50 : decode cX11_lay 50 = .ok (.getfield 51, 3) := by decide +kernel
theorem dX11_lay_53 : decode cX11_lay 53 = .ok (.iload_n 3, 1) := by decide +kernel
theorem dX11_lay_54 : decode cX11_lay 54 = .ok (.iaload, 1) := by decide +kernel
theorem dX11_lay_55 : decode cX11_lay 55 = .ok (.ifCond .ge 6, 3) := by decide +kernel
theorem dX11_lay_58 : decode cX11_lay 58 = .ok (.ldc 181, 2) := by decide +kernel
theorem dX11_lay_60 : decode cX11_lay 60 = .ok (.ireturn, 1) := by decide +kernel
theorem dX11_lay_61 : decode cX11_lay 61 = .ok (.aload_n 0, 1) := by decide +kernel
theorem dX11_lay_62 : decode cX11_lay 62 = .ok (.getfield 60, 3) := by decide +kernel
theorem dX11_lay_65 : decode cX11_lay 65 = .ok (.iload_n 1, 1) := by decide +kernel
theorem dX11_lay_66 : decode cX11_lay 66 = .ok (.iaload, 1) := by decide +kernel
theorem dX11_lay_67 : decode cX11_lay 67 = .ok (.istore 4, 2) := by decide +kernel
theorem dX11_lay_69 : decode cX11_lay 69 = .ok (.aload_n 0, 1) := by decide +kernel
theorem dX11_lay_70 : decode cX11_lay 70 = .ok (.getfield 60, 3) := by decide +kernel
theorem dX11_lay_73 : decode cX11_lay 73 = .ok (.iload_n 1, 1) := by decide +kernel
theorem dX11_lay_74 : decode cX11_lay 74 = .ok (.iload_n 2, 1) := by decide +kernel
theorem dX11_lay_75 : decode cX11_lay 75 = .ok (.iastore, 1) := by decide +kernel
theorem dX11_lay_76 : decode cX11_lay 76 = .ok (.aload_n 0, 1) := by decide +kernel
theorem dX11_lay_77 : decode cX11_lay 77 = .ok (.getfield 63, 3) := by decide +kernel
theorem dX11_lay_80 : decode cX11_lay 80 = .ok (.iload_n 1, 1) := by decide +kernel
theorem dX11_lay_81 : decode cX11_lay 81 = .ok (.iload_n 2, 1) := by decide +kernel
theorem dX11_lay_82 : decode cX11_lay 82 = .ok (.iconst 1, 1) := by decide +kernel
theorem dX11_lay_83 : decode cX11_lay 83 = .ok (.if_icmp .ne 12, 3) := by decide +kernel
theorem dX11_lay_86 : decode cX11_lay 86 = .ok (.aload_n 0, 1) := by decide +kernel
theorem dX11_lay_87 : decode cX11_lay 87 = .ok (.iload_n 3, 1) := by decide +kernel
theorem dX11_lay_88 : decode cX11_lay 88 = .ok (.iconst 0, 1) := by decide +kernel
theorem dX11_lay_89 : decode cX11_lay 89 = .ok (.invokevirtual 110, 3) := by decide +kernel
theorem dX11_lay_92 : decode cX11_lay 92 = .ok (.goto 18, 3) := by decide +kernel
theorem dX11_lay_95 : decode cX11_lay 95 = .ok (.iload_n 2, 1) := by decide +kernel
theorem dX11_lay_96 : decode cX11_lay 96 = .ok (.iconst 2, 1) := by decide +kernel
theorem dX11_lay_97 : decode cX11_lay 97 = .ok (.if_icmp .ne 12, 3) := by decide +kernel
theorem dX11_lay_100 : decode cX11_lay 100 = .ok (.aload_n 0, 1) := by decide +kernel
theorem dX11_lay_101 : decode cX11_lay 101 = .ok (.getfield 54, 3) := by decide +kernel
theorem dX11_lay_104 : decode cX11_lay 104 = .ok (.iload_n 3, 1) := by decide +kernel
theorem dX11_lay_105 : decode cX11_lay 105 = .ok (.iaload, 1) := by decide +kernel
theorem dX11_lay_106 : decode cX11_lay 106 = .ok (.goto 4, 3) := by decide +kernel
theorem dX11_lay_109 : decode cX11_lay 109 = .ok (.iload_n 3, 1) := by decide +kernel
theorem dX11_lay_110 : decode cX11_lay 110 = .ok (.iastore, 1) := by decide +kernel
theorem dX11_lay_111 : decode cX11_lay 111 = .ok (.aload_n 0, 1) := by decide +kernel
theorem dX11_lay_112 : decode cX11_lay 112 = .ok (.getfield 66, 3) := by decide +kernel
theorem dX11_lay_115 : decode cX11_lay 115 = .ok (.iload_n 1, 1) := by decide +kernel
theorem dX11_lay_116 : decode cX11_lay 116 = .ok (.iload_n 2, 1) := by decide +kernel
theorem dX11_lay_117 : decode cX11_lay 117 = .ok (.iconst 1, 1) := by decide +kernel
theorem dX11_lay_118 : decode cX11_lay 118 = .ok (.if_icmp .ne 11, 3) := by decide +kernel
theorem dX11_lay_121 : decode cX11_lay 121 = .ok (.aload_n 0, 1) := by decide +kernel
theorem dX11_lay_122 : decode cX11_lay 122 = .ok (.iload_n 3, 1) := by decide +kernel
theorem dX11_lay_123 : decode cX11_lay 123 = .ok (.invokevirtual 124, 3) := by decide +kernel
theorem dX11_lay_126 : decode cX11_lay 126 = .ok (.goto 4, 3) := by decide +kernel
theorem dX11_lay_129 : decode cX11_lay 129 = .ok (.iconst 0, 1) := by decide +kernel
theorem dX11_lay_130 : decode cX11_lay 130 = .ok (.iastore, 1) := by decide +kernel
theorem dX11_lay_131 : decode cX11_lay 131 = .ok (.iconst 0, 1) := by decide +kernel
theorem dX11_lay_132 : decode cX11_lay 132 = .ok (.istore 5, 2) := by decide +kernel
theorem dX11_lay_134 : decode cX11_lay 134 = .ok (.iload 5, 2) := by decide +kernel
theorem dX11_lay_136 : decode cX11_lay 136 = .ok (.bipush 24, 2) := by decide +kernel
theorem dX11_lay_138 : decode cX11_lay 138 = .ok (.if_icmp .ge 38, 3) := by decide +kernel
theorem dX11_lay_141 : decode cX11_lay 141 = .ok (.iload_n 2, 1) := by decide +kernel
theorem dX11_lay_142 : decode cX11_lay 142 = .ok (.iconst 2, 1) := by decide +kernel
theorem dX11_lay_143 : decode cX11_lay 143 = .ok (.if_icmp .ne 33, 3) := by decide +kernel
theorem dX11_lay_146 : decode cX11_lay 146 = .ok (.aload_n 0, 1) := by decide +kernel
theorem dX11_lay_147 : decode cX11_lay 147 = .ok (.getfield 69, 3) := by decide +kernel
theorem dX11_lay_150 : decode cX11_lay 150 = .ok (.bipush 24, 2) := by decide +kernel
theorem dX11_lay_152 : decode cX11_lay 152 = .ok (.iload_n 1, 1) := by decide +kernel
theorem dX11_lay_153 : decode cX11_lay 153 = .ok (.imul, 1) := by decide +kernel
theorem dX11_lay_154 : decode cX11_lay 154 = .ok (.iload 5, 2) := by decide +kernel
theorem dX11_lay_156 : decode cX11_lay 156 = .ok (.iadd, 1) := by decide +kernel
theorem dX11_lay_157 : decode cX11_lay 157 = .ok (.aload_n 0, 1) := by decide +kernel
theorem dX11_lay_158 : decode cX11_lay 158 = .ok (.getfield 57, 3) := by decide +kernel
theorem dX11_lay_161 : decode cX11_lay 161 = .ok (.bipush 24, 2) := by decide +kernel
theorem dX11_lay_163 : decode cX11_lay 163 = .ok (.iload_n 3, 1) := by decide +kernel
theorem dX11_lay_164 : decode cX11_lay 164 = .ok (.imul, 1) := by decide +kernel
theorem dX11_lay_165 : decode cX11_lay 165 = .ok (.iload 5, 2) := by decide +kernel
theorem dX11_lay_167 : decode cX11_lay 167 = .ok (.iadd, 1) := by decide +kernel
theorem dX11_lay_168 : decode cX11_lay 168 = .ok (.iaload, 1) := by decide +kernel
theorem dX11_lay_169 : decode cX11_lay 169 = .ok (.iastore, 1) := by decide +kernel
theorem dX11_lay_170 : decode cX11_lay 170 = .ok (.iinc 5 1, 3) := by decide +kernel
theorem dX11_lay_173 : decode cX11_lay 173 = .ok (.goto (-39), 3) := by decide +kernel
theorem dX11_lay_176 : decode cX11_lay 176 = .ok (.iload 4, 2) := by decide +kernel
theorem dX11_lay_178 : decode cX11_lay 178 = .ok (.ireturn, 1) := by decide +kernel
theorem dX11_ask_0 : decode cX11_ask 0 = .ok (.iload_n 1, 1) := by decide +kernel
theorem dX11_ask_1 : decode cX11_ask 1 = .ok (.invokestatic 258, 3) := by decide +kernel
theorem dX11_ask_4 : decode cX11_ask 4 = .ok (.ifCond .eq 12, 3) := by decide +kernel
theorem dX11_ask_7 : decode cX11_ask 7 = .ok (.iload_n 2, 1) := by decide +kernel
theorem dX11_ask_8 : decode cX11_ask 8 = .ok (.iconst 0, 1) := by decide +kernel
theorem dX11_ask_9 : decode cX11_ask 9 = .ok (.iconst 5, 1) := by decide +kernel
theorem dX11_ask_10 : decode cX11_ask 10 = .ok (.invokestatic 78, 3) := by decide +kernel
theorem dX11_ask_13 : decode cX11_ask 13 = .ok (.ifCond .ne 6, 3) := by decide +kernel
theorem dX11_ask_16 : decode cX11_ask 16 = .ok (.ldc 90, 2) := by decide +kernel
theorem dX11_ask_18 : decode cX11_ask 18 = .ok (.ireturn, 1) := by decide +kernel
theorem dX11_ask_19 : decode cX11_ask 19 = .ok (.aload_n 0, 1) := by decide +kernel
theorem dX11_ask_20 : decode cX11_ask 20 = .ok (.getfield 60, 3) := by decide +kernel
theorem dX11_ask_23 : decode cX11_ask 23 = .ok (.iload_n 1, 1) := by decide +kernel
theorem dX11_ask_24 : decode cX11_ask 24 = .ok (.iaload, 1) := by decide +kernel
theorem dX11_ask_25 : decode cX11_ask 25 = .ok (.ifCond .ne 6, 3) := by decide +kernel
theorem dX11_ask_28 : decode cX11_ask 28 = .ok (.ldc 181, 2) := by decide +kernel
theorem dX11_ask_30 : decode cX11_ask 30 = .ok (.ireturn, 1) := by decide +kernel
theorem dX11_ask_31 : decode cX11_ask 31 = .ok (.aload_n 0, 1) := by decide +kernel
theorem dX11_ask_32 : decode cX11_ask 32 = .ok (.getfield 60, 3) := by decide +kernel
theorem dX11_ask_35 : decode cX11_ask 35 = .ok (.iload_n 1, 1) := by decide +kernel
theorem dX11_ask_36 : decode cX11_ask 36 = .ok (.iaload, 1) := by decide +kernel
theorem dX11_ask_37 : decode cX11_ask 37 = .ok (.iconst 1, 1) := by decide +kernel
theorem dX11_ask_38 : decode cX11_ask 38 = .ok (.if_icmp .ne 25, 3) := by decide +kernel
theorem dX11_ask_41 : decode cX11_ask 41 = .ok (.aload_n 0, 1) := by decide +kernel
theorem dX11_ask_42 : decode cX11_ask 42 = .ok (.getfield 63, 3) := by decide +kernel
theorem dX11_ask_45 : decode cX11_ask 45 = .ok (.iload_n 1, 1) := by decide +kernel
theorem dX11_ask_46 : decode cX11_ask 46 = .ok (.iaload, 1) := by decide +kernel
theorem dX11_ask_47 : decode cX11_ask 47 = .ok (.iload_n 2, 1) := by decide +kernel
theorem dX11_ask_48 : decode cX11_ask 48 = .ok (.invokestatic 130, 3) := by decide +kernel
theorem dX11_ask_51 : decode cX11_ask 51 = .ok (.ifCond .eq 12, 3) := by decide +kernel
theorem dX11_ask_54 : decode cX11_ask 54 = .ok (.aload_n 0, 1) := by decide +kernel
theorem dX11_ask_55 : decode cX11_ask 55 = .ok (.getfield 66, 3) := by decide +kernel
theorem dX11_ask_58 : decode cX11_ask 58 = .ok (.iload_n 1, 1) := by decide +kernel
theorem dX11_ask_59 : decode cX11_ask 59 = .ok (.iaload, 1) := by decide +kernel
theorem dX11_ask_60 : decode cX11_ask 60 = .ok (.goto 5, 3) := by decide +kernel
theorem dX11_ask_63 : decode cX11_ask 63 = .ok (.ldc 133, 2) := by decide +kernel
theorem dX11_ask_65 : decode cX11_ask 65 = .ok (.ireturn, 1) := by decide +kernel
theorem dX11_item_0 : decode cX11_item 0 = .ok (.iload_n 1, 1) := by decide +kernel
theorem dX11_item_1 : decode cX11_item 1 = .ok (.invokestatic 258, 3) := by decide +kernel
theorem dX11_item_4 : decode cX11_item 4 = .ok (.ifCond .ne 6, 3) := by decide +kernel
theorem dX11_item_7 : decode cX11_item 7 = .ok (.ldc 90, 2) := by decide +kernel
theorem dX11_item_9 : decode cX11_item 9 = .ok (.ireturn, 1) := by decide +kernel
theorem dX11_item_10 : decode cX11_item 10 = .ok (.aload_n 0, 1) := by decide +kernel
theorem dX11_item_11 : decode cX11_item 11 = .ok (.getfield 60, 3) := by decide +kernel
theorem dX11_item_14 : decode cX11_item 14 = .ok (.iload_n 1, 1) := by decide +kernel
theorem dX11_item_15 : decode cX11_item 15 = .ok (.iaload, 1) := by decide +kernel
theorem dX11_item_16 : decode cX11_item 16 = .ok (.ifCond .ne 6, 3) := by decide +kernel
theorem dX11_item_19 : decode cX11_item 19 = .ok (.ldc 181, 2) := by decide +kernel
theorem dX11_item_21 : decode cX11_item 21 = .ok (.ireturn, 1) := by decide +kernel
theorem dX11_item_22 : decode cX11_item 22 = .ok (.aload_n 0, 1) := by decide +kernel
theorem dX11_item_23 : decode cX11_item 23 = .ok (.getfield 60, 3) := by decide +kernel
theorem dX11_item_26 : decode cX11_item 26 = .ok (.iload_n 1, 1) := by decide +kernel
theorem dX11_item_27 : decode cX11_item 27 = .ok (.iaload, 1) := by decide +kernel
theorem dX11_item_28 : decode cX11_item 28 = .ok (.iconst 2, 1) := by decide +kernel
theorem dX11_item_29 : decode cX11_item 29 = .ok (.if_icmp .eq 6, 3) := by decide +kernel
theorem dX11_item_32 : decode cX11_item 32 = .ok (.ldc 133, 2) := by decide +kernel
theorem dX11_item_34 : decode cX11_item 34 = .ok (.ireturn, 1) := by decide +kernel
theorem dX11_item_35 : decode cX11_item 35 = .ok (.iload_n 2, 1) := by decide +kernel
theorem dX11_item_36 : decode cX11_item 36 = .ok (.iconst 0, 1) := by decide +kernel
theorem dX11_item_37 : decode cX11_item 37 = .ok (.aload_n 0, 1) := by decide +kernel
theorem dX11_item_38 : decode cX11_item 38 = .ok (.getfield 63, 3) := by decide +kernel
theorem dX11_item_41 : decode cX11_item 41 = .ok (.iload_n 1, 1) := by decide +kernel
theorem dX11_item_42 : decode cX11_item 42 = .ok (.iaload, 1) := by decide +kernel
theorem dX11_item_43 : decode cX11_item 43 = .ok (.iconst 1, 1) := by decide +kernel
theorem dX11_item_44 : decode cX11_item 44 = .ok (.isub, 1) := by decide +kernel
theorem dX11_item_45 : decode cX11_item 45 = .ok (.invokestatic 78, 3) := by decide +kernel
theorem dX11_item_48 : decode cX11_item 48 = .ok (.ifCond .ne 6, 3) := by decide +kernel
theorem dX11_item_51 : decode cX11_item 51 = .ok (.ldc 255, 2) := by decide +kernel
theorem dX11_item_53 : decode cX11_item 53 = .ok (.ireturn, 1) := by decide +kernel
theorem dX11_item_54 : decode cX11_item 54 = .ok (.aload_n 0, 1) := by decide +kernel
theorem dX11_item_55 : decode cX11_item 55 = .ok (.getfield 69, 3) := by decide +kernel
theorem dX11_item_58 : decode cX11_item 58 = .ok (.bipush 24, 2) := by decide +kernel
theorem dX11_item_60 : decode cX11_item 60 = .ok (.iload_n 1, 1) := by decide +kernel
theorem dX11_item_61 : decode cX11_item 61 = .ok (.imul, 1) := by decide +kernel
theorem dX11_item_62 : decode cX11_item 62 = .ok (.iload_n 2, 1) := by decide +kernel
theorem dX11_item_63 : decode cX11_item 63 = .ok (.iadd, 1) := by decide +kernel
theorem dX11_item_64 : decode cX11_item 64 = .ok (.iaload, 1) := by decide +kernel
theorem dX11_item_65 : decode cX11_item 65 = .ok (.istore_n 3, 1) := by decide +kernel
theorem dX11_item_66 : decode cX11_item 66 = .ok (.iload_n 3, 1) := by decide +kernel
theorem dX11_item_67 : decode cX11_item 67 = .ok (.ldc 152, 2) := by decide +kernel
theorem dX11_item_69 : decode cX11_item 69 = .ok (.if_icmp .ne 8, 3) := by decide +kernel
theorem dX11_item_72 : decode cX11_item 72 = .ok (.ldc 133, 2) := by decide +kernel
theorem dX11_item_74 : decode cX11_item 74 = .ok (.goto 4, 3) := by decide +kernel
theorem dX11_item_77 : decode cX11_item 77 = .ok (.iload_n 3, 1) := by decide +kernel
theorem dX11_item_78 : decode cX11_item 78 = .ok (.ireturn, 1) := by decide +kernel
theorem dX11_rest_0 : decode cX11_rest 0 = .ok (.iload_n 1, 1) := by decide +kernel
theorem dX11_rest_1 : decode cX11_rest 1 = .ok (.invokestatic 258, 3) := by decide +kernel
theorem dX11_rest_4 : decode cX11_rest 4 = .ok (.ifCond .ne 6, 3) := by decide +kernel
theorem dX11_rest_7 : decode cX11_rest 7 = .ok (.ldc 90, 2) := by decide +kernel
theorem dX11_rest_9 : decode cX11_rest 9 = .ok (.ireturn, 1) := by decide +kernel
theorem dX11_rest_10 : decode cX11_rest 10 = .ok (.aload_n 0, 1) := by decide +kernel
theorem dX11_rest_11 : decode cX11_rest 11 = .ok (.getfield 60, 3) := by decide +kernel
theorem dX11_rest_14 : decode cX11_rest 14 = .ok (.iload_n 1, 1) := by decide +kernel
theorem dX11_rest_15 : decode cX11_rest 15 = .ok (.iaload, 1) := by decide +kernel
theorem dX11_rest_16 : decode cX11_rest 16 = .ok (.ifCond .ne 6, 3) := by decide +kernel
theorem dX11_rest_19 : decode cX11_rest 19 = .ok (.ldc 181, 2) := by decide +kernel
theorem dX11_rest_21 : decode cX11_rest 21 = .ok (.ireturn, 1) := by decide +kernel
theorem dX11_rest_22 : decode cX11_rest 22 = .ok (.aload_n 0, 1) := by decide +kernel
theorem dX11_rest_23 : decode cX11_rest 23 = .ok (.getfield 60, 3) := by decide +kernel
theorem dX11_rest_26 : decode cX11_rest 26 = .ok (.iload_n 1, 1) := by decide +kernel
theorem dX11_rest_27 : decode cX11_rest 27 = .ok (.iaload, 1) := by decide +kernel
theorem dX11_rest_28 : decode cX11_rest 28 = .ok (.iconst 3, 1) := by decide +kernel
theorem dX11_rest_29 : decode cX11_rest 29 = .ok (.if_icmp .eq 6, 3) := by decide +kernel
theorem dX11_rest_32 : decode cX11_rest 32 = .ok (.ldc 133, 2) := by decide +kernel
theorem dX11_rest_34 : decode cX11_rest 34 = .ok (.ireturn, 1) := by decide +kernel
theorem dX11_rest_35 : decode cX11_rest 35 = .ok (.iload_n 2, 1) := by decide +kernel
theorem dX11_rest_36 : decode cX11_rest 36 = .ok (.ifCond .ne 8, 3) := by decide +kernel
theorem dX11_rest_39 : decode cX11_rest 39 = .ok (.ldc 151, 2) := by decide +kernel
theorem dX11_rest_41 : decode cX11_rest 41 = .ok (.goto 20, 3) := by decide +kernel
theorem dX11_rest_44 : decode cX11_rest 44 = .ok (.iload_n 2, 1) := by decide +kernel
theorem dX11_rest_45 : decode cX11_rest 45 = .ok (.iconst (-1), 1) := by decide +kernel
theorem dX11_rest_46 : decode cX11_rest 46 = .ok (.if_icmp .ne 7, 3) := by decide +kernel
theorem dX11_rest_49 : decode cX11_rest 49 = .ok (.iconst 0, 1) := by decide +kernel
theorem dX11_rest_50 : decode cX11_rest 50 = .ok (.goto 11, 3) := by decide +kernel
theorem dX11_rest_53 : decode cX11_rest 53 = .ok (.aload_n 0, 1) := by decide +kernel
theorem dX11_rest_54 : decode cX11_rest 54 = .ok (.getfield 63, 3) := by decide +kernel
theorem dX11_rest_57 : decode cX11_rest 57 = .ok (.iload_n 1, 1) := by decide +kernel
theorem dX11_rest_58 : decode cX11_rest 58 = .ok (.iaload, 1) := by decide +kernel
theorem dX11_rest_59 : decode cX11_rest 59 = .ok (.iload_n 2, 1) := by decide +kernel
theorem dX11_rest_60 : decode cX11_rest 60 = .ok (.irem, 1) := by decide +kernel
theorem dX11_rest_61 : decode cX11_rest 61 = .ok (.ireturn, 1) := by decide +kernel
theorem dX11_tell_0 : decode cX11_tell 0 = .ok (.aload_n 0, 1) := by decide +kernel
theorem dX11_tell_1 : decode cX11_tell 1 = .ok (.getfield 261, 3) := by decide +kernel
theorem dX11_tell_4 : decode cX11_tell 4 = .ok (.bipush 60, 2) := by decide +kernel
theorem dX11_tell_6 : decode cX11_tell 6 = .ok (.if_icmp .ne 6, 3) := by decide +kernel
theorem dX11_tell_9 : decode cX11_tell 9 = .ok (.ldc 91, 2) := by decide +kernel
theorem dX11_tell_11 : decode cX11_tell 11 = .ok (.ireturn, 1) := by decide +kernel
theorem dX11_tell_12 : decode cX11_tell 12 = .ok (.aload_n 0, 1) := by decide +kernel
theorem dX11_tell_13 : decode cX11_tell 13 = .ok (.getfield 75, 3) := by decide +kernel
theorem dX11_tell_16 : decode cX11_tell 16 = .ok (.aload_n 0, 1) := by decide +kernel
theorem dX11_tell_17 : decode cX11_tell 17 = .ok (.getfield 261, 3) := by decide +kernel
theorem dX11_tell_20 : decode cX11_tell 20 = .ok (.iload_n 1, 1) := by decide +kernel
theorem dX11_tell_21 : decode cX11_tell 21 = .ok (.iastore, 1) := by decide +kernel
theorem dX11_tell_22 : decode cX11_tell 22 = .ok (.aload_n 0, 1) := by decide +kernel
theorem dX11_tell_23 : decode cX11_tell 23 = .ok (.dup, 1) := by decide +kernel
theorem dX11_tell_24 : decode cX11_tell 24 = .ok (.getfield 261, 3) := by decide +kernel
theorem dX11_tell_27 : decode cX11_tell 27 = .ok (.iconst 1, 1) := by decide +kernel
theorem dX11_tell_28 : decode cX11_tell 28 = .ok (.iadd, 1) := by decide +kernel
theorem dX11_tell_29 : decode cX11_tell 29 = .ok (.putfield 261, 3) := by decide +kernel
theorem dX11_tell_32 : decode cX11_tell 32 = .ok (.aload_n 0, 1) := by decide +kernel
theorem dX11_tell_33 : decode cX11_tell 33 = .ok (.getfield 261, 3) := by decide +kernel
theorem dX11_tell_36 : decode cX11_tell 36 = .ok (.ireturn, 1) := by decide +kernel
theorem dX11_check_0 : decode cX11_check 0 = .ok (.aload_n 0, 1) := by decide +kernel
theorem dX11_check_1 : decode cX11_check 1 = .ok (.getfield 261, 3) := by decide +kernel
theorem dX11_check_4 : decode cX11_check 4 = .ok (.istore_n 2, 1) := by decide +kernel
theorem dX11_check_5 : decode cX11_check 5 = .ok (.aload_n 0, 1) := by decide +kernel
theorem dX11_check_6 : decode cX11_check 6 = .ok (.iconst 0, 1) := by decide +kernel
theorem dX11_check_7 : decode cX11_check 7 = .ok (.putfield 261, 3) := by decide +kernel
theorem dX11_check_10 : decode cX11_check 10 = .ok (.iload_n 1, 1) := by decide +kernel
theorem dX11_check_11 : decode cX11_check 11 = .ok (.iconst 1, 1) := by decide +kernel
theorem dX11_check_12 : decode cX11_check 12 = .ok (.bipush 30, 2) := by decide +kernel
theorem dX11_check_14 : decode cX11_check 14 = .ok (.invokestatic 78, 3) := by decide +kernel
theorem dX11_check_17 : decode cX11_check 17 = .ok (.ifCond .ne 6, 3) := by decide +kernel
theorem dX11_check_20 : decode cX11_check 20 = .ok (.ldc 90, 2) := by decide +kernel
theorem dX11_check_22 : decode cX11_check 22 = .ok (.ireturn, 1) := by decide +kernel
theorem dX11_check_23 : decode cX11_check 23 = .ok (.aload_n 0, 1) := by decide +kernel
theorem dX11_check_24 : decode cX11_check 24 = .ok (.getfield 264, 3) := by decide +kernel
theorem dX11_check_27 : decode cX11_check 27 = .ok (.ifCond .ne 6, 3) := by decide +kernel
theorem dX11_check_30 : decode cX11_check 30 = .ok (.ldc 151, 2) := by decide +kernel
theorem dX11_check_32 : decode cX11_check 32 = .ok (.ireturn, 1) := by decide +kernel
theorem dX11_check_33 : decode cX11_check 33 = .ok (.aload_n 0, 1) := by decide +kernel
theorem dX11_check_34 : decode cX11_check 34 = .ok (.getfield 9, 3) := by decide +kernel
theorem dX11_check_37 : decode cX11_check 37 = .ok (.aload_n 0, 1) := by decide +kernel
theorem dX11_check_38 : decode cX11_check 38 = .ok (.getfield 16, 3) := by decide +kernel
theorem dX11_check_41 : decode cX11_check 41 = .ok (.invokestatic 268, 3) := by decide +kernel
theorem dX11_check_44 : decode cX11_check 44 = .ok (.aload_n 0, 1) := by decide +kernel
theorem dX11_check_45 : decode cX11_check 45 = .ok (.getfield 13, 3) := by decide +kernel
theorem dX11_check_48 : decode cX11_check 48 = .ok (.aload_n 0, 1) := by decide +kernel
theorem dX11_check_49 : decode cX11_check 49 = .ok (.getfield 9, 3) := by decide +kernel
theorem dX11_check_52 : decode cX11_check 52 = .ok (.invokestatic 268, 3) := by decide +kernel
theorem dX11_check_55 : decode cX11_check 55 = .ok (.iconst 2, 1) := by decide +kernel
theorem dX11_check_56 : decode cX11_check 56 = .ok (.sipush 9999, 3) := by decide +kernel
theorem dX11_check_59 : decode cX11_check 59 = .ok (.aload_n 0, 1) := by decide +kernel
theorem dX11_check_60 : decode cX11_check 60 = .ok (.getfield 9, 3) := by decide +kernel
theorem dX11_check_63 : decode cX11_check 63 = .ok (.iconst 2, 1) := by decide +kernel
theorem dX11_check_64 : decode cX11_check 64 = .ok (.iaload, 1) := by decide +kernel
theorem dX11_check_65 : decode cX11_check 65 = .ok (.isub, 1) := by decide +kernel
theorem dX11_check_66 : decode cX11_check 66 = .ok (.iconst 0, 1) := by decide +kernel
theorem dX11_check_67 : decode cX11_check 67 = .ok (.iload_n 1, 1) := by decide +kernel
theorem dX11_check_68 : decode cX11_check 68 = .ok (.invokestatic 107, 3) := by decide +kernel
theorem dX11_check_71 : decode cX11_check 71 = .ok (.imul, 1) := by decide +kernel
theorem dX11_check_72 : decode cX11_check 72 = .ok (.istore_n 3, 1) := by decide +kernel
theorem dX11_check_73 : decode cX11_check 73 = .ok (.iconst 0, 1) := by decide +kernel
theorem dX11_check_74 : decode cX11_check 74 = .ok (.istore 4, 2) := by decide +kernel
theorem dX11_check_76 : decode cX11_check 76 = .ok (.iconst 0, 1) := by decide +kernel
theorem dX11_check_77 : decode cX11_check 77 = .ok (.istore 5, 2) := by decide +kernel
theorem dX11_check_79 : decode cX11_check 79 = .ok (.iconst 2, 1) := by decide +kernel
theorem dX11_check_80 : decode cX11_check 80 = .ok (.iload 5, 2) := by decide +kernel
theorem dX11_check_82 : decode cX11_check 82 = .ok (.imul, 1) := by decide +kernel
theorem dX11_check_83 : decode cX11_check 83 = .ok (.iload_n 3, 1) := by decide +kernel
theorem dX11_check_84 : decode cX11_check 84 = .ok (.if_icmp .ge 104, 3) := by decide +kernel
theorem dX11_check_87 : decode cX11_check 87 = .ok (.iload 4, 2) := by decide +kernel
theorem dX11_check_89 : decode cX11_check 89 = .ok (.iconst 2, 1) := by decide +kernel
theorem dX11_check_90 : decode cX11_check 90 = .ok (.iload 5, 2) := by decide +kernel
theorem dX11_check_92 : decode cX11_check 92 = .ok (.imul, 1) := by decide +kernel
theorem dX11_check_93 : decode cX11_check 93 = .ok (.if_icmp .ne 95, 3) := by decide +kernel
theorem dX11_check_96 : decode cX11_check 96 = .ok (.aload_n 0, 1) := by decide +kernel
theorem dX11_check_97 : decode cX11_check 97 = .ok (.aload_n 0, 1) := by decide +kernel
theorem dX11_check_98 : decode cX11_check 98 = .ok (.getfield 9, 3) := by decide +kernel
theorem dX11_check_101 : decode cX11_check 101 = .ok (.iconst 5, 1) := by decide +kernel
theorem dX11_check_102 : decode cX11_check 102 = .ok (.iaload, 1) := by decide +kernel
theorem dX11_check_103 : decode cX11_check 103 = .ok (.invokevirtual 160, 3) := by decide +kernel
theorem dX11_check_106 : decode cX11_check 106 = .ok (.istore 6, 2) := by decide +kernel
theorem dX11_check_108 : decode cX11_check 108 = .ok (.iload 4, 2) := by decide +kernel
theorem dX11_check_110 : decode cX11_check 110 = .ok (.iload 4, 2) := by decide +kernel
theorem dX11_check_112 : decode cX11_check 112 = .ok (.iload_n 2, 1) := by decide +kernel
theorem dX11_check_113 : decode cX11_check 113 = .ok (.if_icmp .ge 21, 3) := by decide +kernel
theorem dX11_check_116 : decode cX11_check 116 = .ok (.aload_n 0, 1) := by decide +kernel
theorem dX11_check_117 : decode cX11_check 117 = .ok (.getfield 75, 3) := by decide +kernel
theorem dX11_check_120 : decode cX11_check 120 = .ok (.iload 4, 2) := by decide +kernel
theorem dX11_check_122 : decode cX11_check 122 = .ok (.iaload, 1) := by decide +kernel
theorem dX11_check_123 : decode cX11_check 123 = .ok (.aload_n 0, 1) := by decide +kernel
theorem dX11_check_124 : decode cX11_check 124 = .ok (.invokevirtual 100, 3) := by decide +kernel
theorem dX11_check_127 : decode cX11_check 127 = .ok (.if_icmp .ne 7, 3) := by decide +kernel
theorem dX11_check_130 : decode cX11_check 130 = .ok (.iconst 1, 1) := by decide +kernel
theorem dX11_check_131 : decode cX11_check 131 = .ok (.goto 4, 3) := by decide +kernel
theorem dX11_check_134 : decode cX11_check 134 = .ok (.iconst 0, 1) := by decide +kernel
theorem dX11_check_135 : decode cX11_check 135 = .ok (.iadd, 1) := by decide +kernel
theorem dX11_check_136 : decode cX11_check 136 = .ok (.istore 4, 2) := by decide +kernel
theorem dX11_check_138 : decode cX11_check 138 = .ok (.iload 4, 2) := by decide +kernel
theorem dX11_check_140 : decode cX11_check 140 = .ok (.iload 4, 2) := by decide +kernel
theorem dX11_check_142 : decode cX11_check 142 = .ok (.iconst 2, 1) := by decide +kernel
theorem dX11_check_143 : decode cX11_check 143 = .ok (.iload 5, 2) := by decide +kernel
theorem dX11_check_145 : decode cX11_check 145 = .ok (.imul, 1) := by decide +kernel
theorem dX11_check_146 : decode cX11_check 146 = .ok (.iconst 1, 1) := by decide +kernel
theorem dX11_check_147 : decode cX11_check 147 = .ok (.iadd, 1) := by decide +kernel
theorem dX11_check_148 : decode cX11_check 148 = .ok (.if_icmp .ne 30, 3) := by decide +kernel
theorem dX11_check_151 : decode cX11_check 151 = .ok (.iload 4, 2) := by decide +kernel
theorem dX11_check_153 : decode cX11_check 153 = .ok (.iload_n 2, 1) := by decide +kernel
theorem dX11_check_154 : decode cX11_check 154 = .ok (.if_icmp .ge 24, 3) := by decide +kernel
theorem dX11_check_157 : decode cX11_check 157 = .ok (.aload_n 0, 1) := by decide +kernel
theorem dX11_check_158 : decode cX11_check 158 = .ok (.getfield 75, 3) := by decide +kernel
theorem dX11_check_161 : decode cX11_check 161 = .ok (.iload 4, 2) := by decide +kernel
theorem dX11_check_163 : decode cX11_check 163 = .ok (.iaload, 1) := by decide +kernel
theorem dX11_check_164 : decode cX11_check 164 = .ok (.aload_n 0, 1) := by decide +kernel
theorem dX11_check_165 : decode cX11_check 165 = .ok (.getfield 9, 3) := by decide +kernel
theorem dX11_check_168 : decode cX11_check 168 = .ok (.bipush 6, 2) := by decide +kernel
theorem dX11_check_170 : decode cX11_check 170 = .ok (.iaload, 1) := by decide +kernel
theorem dX11_check_171 : decode cX11_check 171 = .ok (.if_icmp .ne 7, 3) := by decide +kernel
theorem dX11_check_174 : decode cX11_check 174 = .ok (.iconst 1, 1) := by decide +kernel
theorem dX11_check_175 : decode cX11_check 175 = .ok (.goto 4, 3) := by decide +kernel
theorem dX11_check_178 : decode cX11_check 178 = .ok (.iconst 0, 1) := by decide +kernel
theorem dX11_check_179 : decode cX11_check 179 = .ok (.iadd, 1) := by decide +kernel
theorem dX11_check_180 : decode cX11_check 180 = .ok (.istore 4, 2) := by decide +kernel
theorem dX11_check_182 : decode cX11_check 182 = .ok (.iinc 5 1, 3) := by decide +kernel
theorem dX11_check_185 : decode cX11_check 185 = .ok (.goto (-106), 3) := by decide +kernel
theorem dX11_check_188 : decode cX11_check 188 = .ok (.aload_n 0, 1) := by decide +kernel
theorem dX11_check_189 : decode cX11_check 189 = .ok (.getfield 16, 3) := by decide +kernel
theorem dX11_check_192 : decode cX11_check 192 = .ok (.aload_n 0, 1) := by decide +kernel
theorem dX11_check_193 : decode cX11_check 193 = .ok (.getfield 9, 3) := by decide +kernel
theorem dX11_check_196 : decode cX11_check 196 = .ok (.invokestatic 268, 3) := by decide +kernel
theorem dX11_check_199 : decode cX11_check 199 = .ok (.iload 4, 2) := by decide +kernel
theorem dX11_check_201 : decode cX11_check 201 = .ok (.iload_n 2, 1) := by decide +kernel
theorem dX11_check_202 : decode cX11_check 202 = .ok (.if_icmp .ne 13, 3) := by decide +kernel
theorem dX11_check_205 : decode cX11_check 205 = .ok (.iload 4, 2) := by decide +kernel
theorem dX11_check_207 : decode cX11_check 207 = .ok (.iload_n 3, 1) := by decide +kernel
theorem dX11_check_208 : decode cX11_check 208 = .ok (.if_icmp .ne 7, 3) := by decide +kernel
theorem dX11_check_211 : decode cX11_check 211 = .ok (.iconst 0, 1) := by decide +kernel
theorem dX11_check_212 : decode cX11_check 212 = .ok (.goto 7, 3) := by decide +kernel
theorem dX11_check_215 : decode cX11_check 215 = .ok (.iconst 1, 1) := by decide +kernel
theorem dX11_check_216 : decode cX11_check 216 = .ok (.iload 4, 2) := by decide +kernel
theorem dX11_check_218 : decode cX11_check 218 = .ok (.iadd, 1) := by decide +kernel
theorem dX11_check_219 : decode cX11_check 219 = .ok (.ireturn, 1) := by decide +kernel
theorem dX11_keep_0 : decode cX11_keep 0 = .ok (.aload_n 0, 1) := by decide +kernel
theorem dX11_keep_1 : decode cX11_keep 1 = .ok (.getfield 9, 3) := by decide +kernel
theorem dX11_keep_4 : decode cX11_keep 4 = .ok (.aload_n 0, 1) := by decide +kernel
theorem dX11_keep_5 : decode cX11_keep 5 = .ok (.getfield 13, 3) := by decide +kernel
theorem dX11_keep_8 : decode cX11_keep 8 = .ok (.invokestatic 268, 3) := by decide +kernel
theorem dX11_keep_11 : decode cX11_keep 11 = .ok (.aload_n 0, 1) := by decide +kernel
theorem dX11_keep_12 : decode cX11_keep 12 = .ok (.iconst 1, 1) := by decide +kernel
theorem dX11_keep_13 : decode cX11_keep 13 = .ok (.putfield 264, 3) := by decide +kernel
theorem dX11_keep_16 : decode cX11_keep 16 = .ok (.aload_n 0, 1) := by decide +kernel
theorem dX11_keep_17 : decode cX11_keep 17 = .ok (.getfield 9, 3) := by decide +kernel
theorem dX11_keep_20 : decode cX11_keep 20 = .ok (.iconst 1, 1) := by decide +kernel
theorem dX11_keep_21 : decode cX11_keep 21 = .ok (.iaload, 1) := by decide +kernel
theorem dX11_keep_22 : decode cX11_keep 22 = .ok (.ireturn, 1) := by decide +kernel
theorem dX11_back_0 : decode cX11_back 0 = .ok (.aload_n 0, 1) := by decide +kernel
theorem dX11_back_1 : decode cX11_back 1 = .ok (.getfield 264, 3) := by decide +kernel
theorem dX11_back_4 : decode cX11_back 4 = .ok (.ifCond .ne 6, 3) := by decide +kernel
theorem dX11_back_7 : decode cX11_back 7 = .ok (.ldc 151, 2) := by decide +kernel
theorem dX11_back_9 : decode cX11_back 9 = .ok (.ireturn, 1) := by decide +kernel
theorem dX11_back_10 : decode cX11_back 10 = .ok (.aload_n 0, 1) := by decide +kernel
theorem dX11_back_11 : decode cX11_back 11 = .ok (.getfield 13, 3) := by decide +kernel
theorem dX11_back_14 : decode cX11_back 14 = .ok (.aload_n 0, 1) := by decide +kernel
theorem dX11_back_15 : decode cX11_back 15 = .ok (.getfield 9, 3) := by decide +kernel
theorem dX11_back_18 : decode cX11_back 18 = .ok (.invokestatic 268, 3) := by decide +kernel
theorem dX11_back_21 : decode cX11_back 21 = .ok (.aload_n 0, 1) := by decide +kernel
theorem dX11_back_22 : decode cX11_back 22 = .ok (.getfield 9, 3) := by decide +kernel
theorem dX11_back_25 : decode cX11_back 25 = .ok (.iconst 1, 1) := by decide +kernel
theorem dX11_back_26 : decode cX11_back 26 = .ok (.iaload, 1) := by decide +kernel
theorem dX11_back_27 : decode cX11_back 27 = .ok (.ireturn, 1) := by decide +kernel
theorem dX11_count_0 : decode cX11_count 0 = .ok (.iload_n 1, 1) := by decide +kernel
theorem dX11_count_1 : decode cX11_count 1 = .ok (.tableswitch 112 0 10 #[59, 66, 66, 66, 66, 75, 81, 87, 95, 100, 105], 59) := by decide +kernel
theorem dX11_count_60 : decode cX11_count 60 = .ok (.aload_n 0, 1) := by decide +kernel
theorem dX11_count_61 : decode cX11_count 61 = .ok (.getfield 9, 3) := by decide +kernel
theorem dX11_count_64 : decode cX11_count 64 = .ok (.iconst 1, 1) := by decide +kernel
theorem dX11_count_65 : decode cX11_count 65 = .ok (.iaload, 1) := by decide +kernel
theorem dX11_count_66 : decode cX11_count 66 = .ok (.ireturn, 1) := by decide +kernel
theorem dX11_count_67 : decode cX11_count 67 = .ok (.aload_n 0, 1) := by decide +kernel
theorem dX11_count_68 : decode cX11_count 68 = .ok (.getfield 9, 3) := by decide +kernel
theorem dX11_count_71 : decode cX11_count 71 = .ok (.iconst 1, 1) := by decide +kernel
theorem dX11_count_72 : decode cX11_count 72 = .ok (.iload_n 1, 1) := by decide +kernel
theorem dX11_count_73 : decode cX11_count 73 = .ok (.iadd, 1) := by decide +kernel
theorem dX11_count_74 : decode cX11_count 74 = .ok (.iaload, 1) := by decide +kernel
theorem dX11_count_75 : decode cX11_count 75 = .ok (.ireturn, 1) := by decide +kernel
theorem dX11_count_76 : decode cX11_count 76 = .ok (.aload_n 0, 1) := by decide +kernel
theorem dX11_count_77 : decode cX11_count 77 = .ok (.iconst 3, 1) := by decide +kernel
theorem dX11_count_78 : decode cX11_count 78 = .ok (.invokevirtual 169, 3) := by decide +kernel
theorem dX11_count_81 : decode cX11_count 81 = .ok (.ireturn, 1) := by decide +kernel
theorem dX11_count_82 : decode cX11_count 82 = .ok (.aload_n 0, 1) := by decide +kernel
theorem dX11_count_83 : decode cX11_count 83 = .ok (.iconst 1, 1) := by decide +kernel
theorem dX11_count_84 : decode cX11_count 84 = .ok (.invokevirtual 169, 3) := by decide +kernel
theorem dX11_count_87 : decode cX11_count 87 = .ok (.ireturn, 1) := by decide +kernel
theorem dX11_count_88 : decode cX11_count 88 = .ok (.aload_n 0, 1) := by decide +kernel
theorem dX11_count_89 : decode cX11_count 89 = .ok (.getfield 9, 3) := by decide +kernel
theorem dX11_count_92 : decode cX11_count 92 = .ok (.bipush 9, 2) := by decide +kernel
theorem dX11_count_94 : decode cX11_count 94 = .ok (.iaload, 1) := by decide +kernel
theorem dX11_count_95 : decode cX11_count 95 = .ok (.ireturn, 1) := by decide +kernel
theorem dX11_count_96 : decode cX11_count 96 = .ok (.aload_n 0, 1) := by decide +kernel
theorem dX11_count_97 : decode cX11_count 97 = .ok (.getfield 261, 3) := by decide +kernel
theorem dX11_count_100 : decode cX11_count 100 = .ok (.ireturn, 1) := by decide +kernel
theorem dX11_count_101 : decode cX11_count 101 = .ok (.aload_n 0, 1) := by decide +kernel
theorem dX11_count_102 : decode cX11_count 102 = .ok (.getfield 186, 3) := by decide +kernel
theorem dX11_count_105 : decode cX11_count 105 = .ok (.ireturn, 1) := by decide +kernel
theorem dX11_count_106 : decode cX11_count 106 = .ok (.aload_n 0, 1) := by decide +kernel
theorem dX11_count_107 : decode cX11_count 107 = .ok (.getfield 9, 3) := by decide +kernel
theorem dX11_count_110 : decode cX11_count 110 = .ok (.iconst 0, 1) := by decide +kernel
theorem dX11_count_111 : decode cX11_count 111 = .ok (.iaload, 1) := by decide +kernel
theorem dX11_count_112 : decode cX11_count 112 = .ok (.ireturn, 1) := by decide +kernel
theorem dX11_count_113 : decode cX11_count 113 = .ok (.ldc 90, 2) := by decide +kernel
theorem dX11_count_115 : decode cX11_count 115 = .ok (.ireturn, 1) := by decide +kernel
theorem dJ11_isValidCodePoint_9a6ad_0 : decode cJ11_isValidCodePoint_9a6ad 0 = .ok (.iload_n 0, 1) := by decide +kernel
theorem dJ11_isValidCodePoint_9a6ad_1 : decode cJ11_isValidCodePoint_9a6ad 1 = .ok (.bipush 16, 2) := by decide +kernel
theorem dJ11_isValidCodePoint_9a6ad_3 : decode cJ11_isValidCodePoint_9a6ad 3 = .ok (.iushr, 1) := by decide +kernel
theorem dJ11_isValidCodePoint_9a6ad_4 : decode cJ11_isValidCodePoint_9a6ad 4 = .ok (.istore_n 1, 1) := by decide +kernel
theorem dJ11_isValidCodePoint_9a6ad_5 : decode cJ11_isValidCodePoint_9a6ad 5 = .ok (.iload_n 1, 1) := by decide +kernel
theorem dJ11_isValidCodePoint_9a6ad_6 : decode cJ11_isValidCodePoint_9a6ad 6 = .ok (.bipush 17, 2) := by decide +kernel
theorem dJ11_isValidCodePoint_9a6ad_8 : decode cJ11_isValidCodePoint_9a6ad 8 = .ok (.if_icmp .ge 7, 3) := by decide +kernel
theorem dJ11_isValidCodePoint_9a6ad_11 : decode cJ11_isValidCodePoint_9a6ad 11 = .ok (.iconst 1, 1) := by decide +kernel
theorem dJ11_isValidCodePoint_9a6ad_12 : decode cJ11_isValidCodePoint_9a6ad 12 = .ok (.goto 4, 3) := by decide +kernel
theorem dJ11_isValidCodePoint_9a6ad_15 : decode cJ11_isValidCodePoint_9a6ad 15 = .ok (.iconst 0, 1) := by decide +kernel
theorem dJ11_isValidCodePoint_9a6ad_16 : decode cJ11_isValidCodePoint_9a6ad 16 = .ok (.ireturn, 1) := by decide +kernel
theorem dJ11_highSurrogate_5068e_0 : decode cJ11_highSurrogate_5068e 0 = .ok (.iload_n 0, 1) := by decide +kernel
theorem dJ11_highSurrogate_5068e_1 : decode cJ11_highSurrogate_5068e 1 = .ok (.bipush 10, 2) := by decide +kernel
theorem dJ11_highSurrogate_5068e_3 : decode cJ11_highSurrogate_5068e 3 = .ok (.iushr, 1) := by decide +kernel
theorem dJ11_highSurrogate_5068e_4 : decode cJ11_highSurrogate_5068e 4 = .ok (.ldc 110, 2) := by decide +kernel
theorem dJ11_highSurrogate_5068e_6 : decode cJ11_highSurrogate_5068e 6 = .ok (.iadd, 1) := by decide +kernel
theorem dJ11_highSurrogate_5068e_7 : decode cJ11_highSurrogate_5068e 7 = .ok (.i2c, 1) := by decide +kernel
theorem dJ11_highSurrogate_5068e_8 : decode cJ11_highSurrogate_5068e 8 = .ok (.ireturn, 1) := by decide +kernel
theorem dJ11_lowSurrogate_5068e_0 : decode cJ11_lowSurrogate_5068e 0 = .ok (.iload_n 0, 1) := by decide +kernel
theorem dJ11_lowSurrogate_5068e_1 : decode cJ11_lowSurrogate_5068e 1 = .ok (.sipush 1023, 3) := by decide +kernel
theorem dJ11_lowSurrogate_5068e_4 : decode cJ11_lowSurrogate_5068e 4 = .ok (.iand, 1) := by decide +kernel
theorem dJ11_lowSurrogate_5068e_5 : decode cJ11_lowSurrogate_5068e 5 = .ok (.ldc 76, 2) := by decide +kernel
theorem dJ11_lowSurrogate_5068e_7 : decode cJ11_lowSurrogate_5068e 7 = .ok (.iadd, 1) := by decide +kernel
theorem dJ11_lowSurrogate_5068e_8 : decode cJ11_lowSurrogate_5068e 8 = .ok (.i2c, 1) := by decide +kernel
theorem dJ11_lowSurrogate_5068e_9 : decode cJ11_lowSurrogate_5068e 9 = .ok (.ireturn, 1) := by decide +kernel
theorem dJ9_abs_0f7a4_0 : decode cJ9_abs_0f7a4 0 = .ok (.iload_n 0, 1) := by decide +kernel
theorem dJ9_abs_0f7a4_1 : decode cJ9_abs_0f7a4 1 = .ok (.ifCond .ge 8, 3) := by decide +kernel
theorem dJ9_abs_0f7a4_4 : decode cJ9_abs_0f7a4 4 = .ok (.iload_n 0, 1) := by decide +kernel
theorem dJ9_abs_0f7a4_5 : decode cJ9_abs_0f7a4 5 = .ok (.ineg, 1) := by decide +kernel
theorem dJ9_abs_0f7a4_6 : decode cJ9_abs_0f7a4 6 = .ok (.goto 4, 3) := by decide +kernel
theorem dJ9_abs_0f7a4_9 : decode cJ9_abs_0f7a4 9 = .ok (.iload_n 0, 1) := by decide +kernel
theorem dJ9_abs_0f7a4_10 : decode cJ9_abs_0f7a4 10 = .ok (.ireturn, 1) := by decide +kernel
theorem dJ9_max_7cf53_0 : decode cJ9_max_7cf53 0 = .ok (.iload_n 0, 1) := by decide +kernel
theorem dJ9_max_7cf53_1 : decode cJ9_max_7cf53 1 = .ok (.iload_n 1, 1) := by decide +kernel
theorem dJ9_max_7cf53_2 : decode cJ9_max_7cf53 2 = .ok (.if_icmp .lt 7, 3) := by decide +kernel
theorem dJ9_max_7cf53_5 : decode cJ9_max_7cf53 5 = .ok (.iload_n 0, 1) := by decide +kernel
theorem dJ9_max_7cf53_6 : decode cJ9_max_7cf53 6 = .ok (.goto 4, 3) := by decide +kernel
theorem dJ9_max_7cf53_9 : decode cJ9_max_7cf53 9 = .ok (.iload_n 1, 1) := by decide +kernel
theorem dJ9_max_7cf53_10 : decode cJ9_max_7cf53 10 = .ok (.ireturn, 1) := by decide +kernel
theorem dJ9_min_7cf53_0 : decode cJ9_min_7cf53 0 = .ok (.iload_n 0, 1) := by decide +kernel
theorem dJ9_min_7cf53_1 : decode cJ9_min_7cf53 1 = .ok (.iload_n 1, 1) := by decide +kernel
theorem dJ9_min_7cf53_2 : decode cJ9_min_7cf53 2 = .ok (.if_icmp .gt 7, 3) := by decide +kernel
theorem dJ9_min_7cf53_5 : decode cJ9_min_7cf53 5 = .ok (.iload_n 0, 1) := by decide +kernel
theorem dJ9_min_7cf53_6 : decode cJ9_min_7cf53 6 = .ok (.goto 4, 3) := by decide +kernel
theorem dJ9_min_7cf53_9 : decode cJ9_min_7cf53 9 = .ok (.iload_n 1, 1) := by decide +kernel
theorem dJ9_min_7cf53_10 : decode cJ9_min_7cf53 10 = .ok (.ireturn, 1) := by decide +kernel
theorem dJ0_length_8abf5_0 : decode cJ0_length_8abf5 0 = .ok (.aload_n 0, 1) := by decide +kernel
theorem dJ0_length_8abf5_1 : decode cJ0_length_8abf5 1 = .ok (.getfield 9, 3) := by decide +kernel
theorem dJ0_length_8abf5_4 : decode cJ0_length_8abf5 4 = .ok (.arraylength, 1) := by decide +kernel
theorem dJ0_length_8abf5_5 : decode cJ0_length_8abf5 5 = .ok (.aload_n 0, 1) := by decide +kernel
theorem dJ0_length_8abf5_6 : decode cJ0_length_8abf5 6 = .ok (.invokevirtual 335, 3) := by decide +kernel
theorem dJ0_length_8abf5_9 : decode cJ0_length_8abf5 9 = .ok (.ishr, 1) := by decide +kernel
theorem dJ0_length_8abf5_10 : decode cJ0_length_8abf5 10 = .ok (.ireturn, 1) := by decide +kernel
theorem dJ0_charAt_5068e_0 : decode cJ0_charAt_5068e 0 = .ok (.aload_n 0, 1) := by decide +kernel
theorem dJ0_charAt_5068e_1 : decode cJ0_charAt_5068e 1 = .ok (.invokevirtual 492, 3) := by decide +kernel
theorem dJ0_charAt_5068e_4 : decode cJ0_charAt_5068e 4 = .ok (.ifCond .eq 12, 3) := by decide +kernel
theorem dJ0_charAt_5068e_7 : decode cJ0_charAt_5068e 7 = .ok (.aload_n 0, 1) := by decide +kernel
theorem dJ0_charAt_5068e_8 : decode cJ0_charAt_5068e 8 = .ok (.getfield 9, 3) := by decide +kernel
theorem dJ0_charAt_5068e_11 : decode cJ0_charAt_5068e 11 = .ok (.iload_n 1, 1) := by decide +kernel
theorem dJ0_charAt_5068e_12 : decode cJ0_charAt_5068e 12 = .ok (.invokestatic 495, 3) := by decide +kernel
theorem dJ0_charAt_5068e_15 : decode cJ0_charAt_5068e 15 = .ok (.ireturn, 1) := by decide +kernel
theorem dJ0_charAt_5068e_16 : decode cJ0_charAt_5068e 16 = .ok (.aload_n 0, 1) := by decide +kernel
theorem dJ0_charAt_5068e_17 : decode cJ0_charAt_5068e 17 = .ok (.getfield 9, 3) := by decide +kernel
theorem dJ0_charAt_5068e_20 : decode cJ0_charAt_5068e 20 = .ok (.iload_n 1, 1) := by decide +kernel
theorem dJ0_charAt_5068e_21 : decode cJ0_charAt_5068e 21 = .ok (.invokestatic 498, 3) := by decide +kernel
theorem dJ0_charAt_5068e_24 : decode cJ0_charAt_5068e 24 = .ok (.ireturn, 1) := by decide +kernel
theorem dJ0_indexOf_0f7a4_0 : decode cJ0_indexOf_0f7a4 0 = .ok (.aload_n 0, 1) := by decide +kernel
theorem dJ0_indexOf_0f7a4_1 : decode cJ0_indexOf_0f7a4 1 = .ok (.iload_n 1, 1) := by decide +kernel
theorem dJ0_indexOf_0f7a4_2 : decode cJ0_indexOf_0f7a4 2 = .ok (.iconst 0, 1) := by decide +kernel
theorem dJ0_indexOf_0f7a4_3 : decode cJ0_indexOf_0f7a4 3 = .ok (.invokevirtual 633, 3) := by decide +kernel
theorem dJ0_indexOf_0f7a4_6 : decode cJ0_indexOf_0f7a4 6 = .ok (.ireturn, 1) := by decide +kernel
theorem dJ0_indexOf_7cf53_0 : decode cJ0_indexOf_7cf53 0 = .ok (.aload_n 0, 1) := by decide +kernel
theorem dJ0_indexOf_7cf53_1 : decode cJ0_indexOf_7cf53 1 = .ok (.invokevirtual 492, 3) := by decide +kernel
theorem dJ0_indexOf_7cf53_4 : decode cJ0_indexOf_7cf53 4 = .ok (.ifCond .eq 19, 3) := by decide +kernel
theorem dJ0_indexOf_7cf53_7 : decode cJ0_indexOf_7cf53 7 = .ok (.aload_n 0, 1) := by decide +kernel
theorem dJ0_indexOf_7cf53_8 : decode cJ0_indexOf_7cf53 8 = .ok (.getfield 9, 3) := by decide +kernel
theorem dJ0_indexOf_7cf53_11 : decode cJ0_indexOf_7cf53 11 = .ok (.iload_n 1, 1) := by decide +kernel
theorem dJ0_indexOf_7cf53_12 : decode cJ0_indexOf_7cf53 12 = .ok (.iload_n 2, 1) := by decide +kernel
theorem dJ0_indexOf_7cf53_13 : decode cJ0_indexOf_7cf53 13 = .ok (.aload_n 0, 1) := by decide +kernel
theorem dJ0_indexOf_7cf53_14 : decode cJ0_indexOf_7cf53 14 = .ok (.invokevirtual 505, 3) := by decide +kernel
theorem dJ0_indexOf_7cf53_17 : decode cJ0_indexOf_7cf53 17 = .ok (.invokestatic 637, 3) := by decide +kernel
theorem dJ0_indexOf_7cf53_20 : decode cJ0_indexOf_7cf53 20 = .ok (.goto 16, 3) := by decide +kernel
theorem dJ0_indexOf_7cf53_23 : decode cJ0_indexOf_7cf53 23 = .ok (.aload_n 0, 1) := by decide +kernel
theorem dJ0_indexOf_7cf53_24 : decode cJ0_indexOf_7cf53 24 = .ok (.getfield 9, 3) := by decide +kernel
theorem dJ0_indexOf_7cf53_27 : decode cJ0_indexOf_7cf53 27 = .ok (.iload_n 1, 1) := by decide +kernel
theorem dJ0_indexOf_7cf53_28 : decode cJ0_indexOf_7cf53 28 = .ok (.iload_n 2, 1) := by decide +kernel
theorem dJ0_indexOf_7cf53_29 : decode cJ0_indexOf_7cf53 29 = .ok (.aload_n 0, 1) := by decide +kernel
theorem dJ0_indexOf_7cf53_30 : decode cJ0_indexOf_7cf53 30 = .ok (.invokevirtual 505, 3) := by decide +kernel
theorem dJ0_indexOf_7cf53_33 : decode cJ0_indexOf_7cf53 33 = .ok (.invokestatic 640, 3) := by decide +kernel
theorem dJ0_indexOf_7cf53_36 : decode cJ0_indexOf_7cf53 36 = .ok (.ireturn, 1) := by decide +kernel
theorem dJ0_coder_7d493_0 : decode cJ0_coder_7d493 0 = .ok (.getstatic 38, 3) := by decide +kernel
theorem dJ0_coder_7d493_3 : decode cJ0_coder_7d493 3 = .ok (.ifCond .eq 10, 3) := by decide +kernel
theorem dJ0_coder_7d493_6 : decode cJ0_coder_7d493 6 = .ok (.aload_n 0, 1) := by decide +kernel
theorem dJ0_coder_7d493_7 : decode cJ0_coder_7d493 7 = .ok (.getfield 15, 3) := by decide +kernel
theorem dJ0_coder_7d493_10 : decode cJ0_coder_7d493 10 = .ok (.goto 4, 3) := by decide +kernel
theorem dJ0_coder_7d493_13 : decode cJ0_coder_7d493 13 = .ok (.iconst 1, 1) := by decide +kernel
theorem dJ0_coder_7d493_14 : decode cJ0_coder_7d493 14 = .ok (.ireturn, 1) := by decide +kernel
theorem dJ0_isLatin1_aae02_0 : decode cJ0_isLatin1_aae02 0 = .ok (.getstatic 38, 3) := by decide +kernel
theorem dJ0_isLatin1_aae02_3 : decode cJ0_isLatin1_aae02 3 = .ok (.ifCond .eq 14, 3) := by decide +kernel
theorem dJ0_isLatin1_aae02_6 : decode cJ0_isLatin1_aae02 6 = .ok (.aload_n 0, 1) := by decide +kernel
theorem dJ0_isLatin1_aae02_7 : decode cJ0_isLatin1_aae02 7 = .ok (.getfield 15, 3) := by decide +kernel
theorem dJ0_isLatin1_aae02_10 : decode cJ0_isLatin1_aae02 10 = .ok (.ifCond .ne 7, 3) := by decide +kernel
theorem dJ0_isLatin1_aae02_13 : decode cJ0_isLatin1_aae02 13 = .ok (.iconst 1, 1) := by decide +kernel
theorem dJ0_isLatin1_aae02_14 : decode cJ0_isLatin1_aae02 14 = .ok (.goto 4, 3) := by decide +kernel
theorem dJ0_isLatin1_aae02_17 : decode cJ0_isLatin1_aae02 17 = .ok (.iconst 0, 1) := by decide +kernel
theorem dJ0_isLatin1_aae02_18 : decode cJ0_isLatin1_aae02 18 = .ok (.ireturn, 1) := by decide +kernel
theorem dJ0_checkIndex_df160_0 : decode cJ0_checkIndex_df160 0 = .ok (.iload_n 0, 1) := by decide +kernel
theorem dJ0_checkIndex_df160_1 : decode cJ0_checkIndex_df160 1 = .ok (.iload_n 1, 1) := by decide +kernel
theorem dJ0_checkIndex_df160_2 : decode cJ0_checkIndex_df160 2 = .ok (.getstatic 1053, 3) := by decide +kernel
theorem dJ0_checkIndex_df160_5 : decode cJ0_checkIndex_df160 5 = .ok (.invokestatic 1059, 3) := by decide +kernel
theorem dJ0_checkIndex_df160_8 : decode cJ0_checkIndex_df160 8 = .ok (.pop, 1) := by decide +kernel
theorem dJ0_checkIndex_df160_9 : decode cJ0_checkIndex_df160 9 = .ok (.return_, 1) := by decide +kernel
theorem dJ0_checkBoundsBeginEnd_23922_0 : decode cJ0_checkBoundsBeginEnd_23922 0 = .ok (.iload_n 0, 1) := by decide +kernel
theorem dJ0_checkBoundsBeginEnd_23922_1 : decode cJ0_checkBoundsBeginEnd_23922 1 = .ok (.iload_n 1, 1) := by decide +kernel
theorem dJ0_checkBoundsBeginEnd_23922_2 : decode cJ0_checkBoundsBeginEnd_23922 2 = .ok (.iload_n 2, 1) := by decide +kernel
theorem dJ0_checkBoundsBeginEnd_23922_3 : decode cJ0_checkBoundsBeginEnd_23922 3 = .ok (.getstatic 1053, 3) := by decide +kernel
theorem dJ0_checkBoundsBeginEnd_23922_6 : decode cJ0_checkBoundsBeginEnd_23922 6 = .ok (.invokestatic 1062, 3) := by decide +kernel
theorem dJ0_checkBoundsBeginEnd_23922_9 : decode cJ0_checkBoundsBeginEnd_23922 9 = .ok (.pop, 1) := by decide +kernel
theorem dJ0_checkBoundsBeginEnd_23922_10 : decode cJ0_checkBoundsBeginEnd_23922 10 = .ok (.return_, 1) := by decide +kernel
theorem dJ1_charAt_3b067_0 : decode cJ1_charAt_3b067 0 = .ok (.iload_n 1, 1) := by decide +kernel
theorem dJ1_charAt_3b067_1 : decode cJ1_charAt_3b067 1 = .ok (.aload_n 0, 1) := by decide +kernel
theorem dJ1_charAt_3b067_2 : decode cJ1_charAt_3b067 2 = .ok (.arraylength, 1) := by decide +kernel
theorem dJ1_charAt_3b067_3 : decode cJ1_charAt_3b067 3 = .ok (.invokestatic 9, 3) := by decide +kernel
theorem dJ1_charAt_3b067_6 : decode cJ1_charAt_3b067 6 = .ok (.aload_n 0, 1) := by decide +kernel
theorem dJ1_charAt_3b067_7 : decode cJ1_charAt_3b067 7 = .ok (.iload_n 1, 1) := by decide +kernel
theorem dJ1_charAt_3b067_8 : decode cJ1_charAt_3b067 8 = .ok (.baload, 1) := by decide +kernel
theorem dJ1_charAt_3b067_9 : decode cJ1_charAt_3b067 9 = .ok (.sipush 255, 3) := by decide +kernel
theorem dJ1_charAt_3b067_12 : decode cJ1_charAt_3b067 12 = .ok (.iand, 1) := by decide +kernel
theorem dJ1_charAt_3b067_13 : decode cJ1_charAt_3b067 13 = .ok (.i2c, 1) := by decide +kernel
theorem dJ1_charAt_3b067_14 : decode cJ1_charAt_3b067 14 = .ok (.ireturn, 1) := by decide +kernel
theorem dJ1_canEncode_9a6ad_0 : decode cJ1_canEncode_9a6ad 0 = .ok (.iload_n 0, 1) := by decide +kernel
theorem dJ1_canEncode_9a6ad_1 : decode cJ1_canEncode_9a6ad 1 = .ok (.ifCond .lt 14, 3) := by decide +kernel
theorem dJ1_canEncode_9a6ad_4 : decode cJ1_canEncode_9a6ad 4 = .ok (.iload_n 0, 1) := by decide +kernel
theorem dJ1_canEncode_9a6ad_5 : decode cJ1_canEncode_9a6ad 5 = .ok (.sipush 255, 3) := by decide +kernel
theorem dJ1_canEncode_9a6ad_8 : decode cJ1_canEncode_9a6ad 8 = .ok (.if_icmp .gt 7, 3) := by decide +kernel
theorem dJ1_canEncode_9a6ad_11 : decode cJ1_canEncode_9a6ad 11 = .ok (.iconst 1, 1) := by decide +kernel
theorem dJ1_canEncode_9a6ad_12 : decode cJ1_canEncode_9a6ad 12 = .ok (.goto 4, 3) := by decide +kernel
theorem dJ1_canEncode_9a6ad_15 : decode cJ1_canEncode_9a6ad 15 = .ok (.iconst 0, 1) := by decide +kernel
theorem dJ1_canEncode_9a6ad_16 : decode cJ1_canEncode_9a6ad 16 = .ok (.ireturn, 1) := by decide +kernel
theorem dJ1_indexOf_4cfef_0 : decode cJ1_indexOf_4cfef 0 = .ok (.iload_n 1, 1) := by decide +kernel
theorem dJ1_indexOf_4cfef_1 : decode cJ1_indexOf_4cfef 1 = .ok (.invokestatic 88, 3) := by decide +kernel
theorem dJ1_indexOf_4cfef_4 : decode cJ1_indexOf_4cfef 4 = .ok (.ifCond .ne 5, 3) := by decide +kernel
theorem dJ1_indexOf_4cfef_7 : decode cJ1_indexOf_4cfef 7 = .ok (.iconst (-1), 1) := by decide +kernel
theorem dJ1_indexOf_4cfef_8 : decode cJ1_indexOf_4cfef 8 = .ok (.ireturn, 1) := by decide +kernel
theorem dJ1_indexOf_4cfef_9 : decode cJ1_indexOf_4cfef 9 = .ok (.iload_n 2, 1) := by decide +kernel
theorem dJ1_indexOf_4cfef_10 : decode cJ1_indexOf_4cfef 10 = .ok (.iconst 0, 1) := by decide +kernel
theorem dJ1_indexOf_4cfef_11 : decode cJ1_indexOf_4cfef 11 = .ok (.invokestatic 92, 3) := by decide +kernel
theorem dJ1_indexOf_4cfef_14 : decode cJ1_indexOf_4cfef 14 = .ok (.istore_n 2, 1) := by decide +kernel
theorem dJ1_indexOf_4cfef_15 : decode cJ1_indexOf_4cfef 15 = .ok (.iload_n 3, 1) := by decide +kernel
theorem dJ1_indexOf_4cfef_16 : decode cJ1_indexOf_4cfef 16 = .ok (.aload_n 0, 1) := by decide +kernel
theorem dJ1_indexOf_4cfef_17 : decode cJ1_indexOf_4cfef 17 = .ok (.arraylength, 1) := by decide +kernel
theorem dJ1_indexOf_4cfef_18 : decode cJ1_indexOf_4cfef 18 = .ok (.invokestatic 38, 3) := by decide +kernel
theorem dJ1_indexOf_4cfef_21 : decode cJ1_indexOf_4cfef 21 = .ok (.istore_n 3, 1) := by decide +kernel
theorem dJ1_indexOf_4cfef_22 : decode cJ1_indexOf_4cfef 22 = .ok (.iload_n 2, 1) := by decide +kernel
theorem dJ1_indexOf_4cfef_23 : decode cJ1_indexOf_4cfef 23 = .ok (.iload_n 3, 1) := by decide +kernel
theorem dJ1_indexOf_4cfef_24 : decode cJ1_indexOf_4cfef 24 = .ok (.if_icmp .lt 5, 3) := by decide +kernel
theorem dJ1_indexOf_4cfef_27 : decode cJ1_indexOf_4cfef 27 = .ok (.iconst (-1), 1) := by decide +kernel
theorem dJ1_indexOf_4cfef_28 : decode cJ1_indexOf_4cfef 28 = .ok (.ireturn, 1) := by decide +kernel
theorem dJ1_indexOf_4cfef_29 : decode cJ1_indexOf_4cfef 29 = .ok (.aload_n 0, 1) := by decide +kernel
theorem dJ1_indexOf_4cfef_30 : decode cJ1_indexOf_4cfef 30 = .ok (.iload_n 1, 1) := by decide +kernel
theorem dJ1_indexOf_4cfef_31 : decode cJ1_indexOf_4cfef 31 = .ok (.iload_n 2, 1) := by decide +kernel
theorem dJ1_indexOf_4cfef_32 : decode cJ1_indexOf_4cfef 32 = .ok (.iload_n 3, 1) := by decide +kernel
theorem dJ1_indexOf_4cfef_33 : decode cJ1_indexOf_4cfef 33 = .ok (.invokestatic 95, 3) := by decide +kernel
theorem dJ1_indexOf_4cfef_36 : decode cJ1_indexOf_4cfef 36 = .ok (.ireturn, 1) := by decide +kernel
theorem dJ1_indexOfChar_4cfef_0 : decode cJ1_indexOfChar_4cfef 0 = .ok (.iload_n 1, 1) := by decide +kernel
theorem dJ1_indexOfChar_4cfef_1 : decode cJ1_indexOfChar_4cfef 1 = .ok (.i2b, 1) := by decide +kernel
theorem dJ1_indexOfChar_4cfef_2 : decode cJ1_indexOfChar_4cfef 2 = .ok (.istore 4, 2) := by decide +kernel
theorem dJ1_indexOfChar_4cfef_4 : decode cJ1_indexOfChar_4cfef 4 = .ok (.iload_n 2, 1) := by decide +kernel
theorem dJ1_indexOfChar_4cfef_5 : decode cJ1_indexOfChar_4cfef 5 = .ok (.istore 5, 2) := by decide +kernel
theorem dJ1_indexOfChar_4cfef_7 : decode cJ1_indexOfChar_4cfef 7 = .ok (.iload 5, 2) := by decide +kernel
theorem dJ1_indexOfChar_4cfef_9 : decode cJ1_indexOfChar_4cfef 9 = .ok (.iload_n 3, 1) := by decide +kernel
theorem dJ1_indexOfChar_4cfef_10 : decode cJ1_indexOfChar_4cfef 10 = .ok (.if_icmp .ge 21, 3) := by decide +kernel
theorem dJ1_indexOfChar_4cfef_13 : decode cJ1_indexOfChar_4cfef 13 = .ok (.aload_n 0, 1) := by decide +kernel
theorem dJ1_indexOfChar_4cfef_14 : decode cJ1_indexOfChar_4cfef 14 = .ok (.iload 5, 2) := by decide +kernel
theorem dJ1_indexOfChar_4cfef_16 : decode cJ1_indexOfChar_4cfef 16 = .ok (.baload, 1) := by decide +kernel
theorem dJ1_indexOfChar_4cfef_17 : decode cJ1_indexOfChar_4cfef 17 = .ok (.iload 4, 2) := by decide +kernel
theorem dJ1_indexOfChar_4cfef_19 : decode cJ1_indexOfChar_4cfef 19 = .ok (.if_icmp .ne 6, 3) := by decide +kernel
theorem dJ1_indexOfChar_4cfef_22 : decode cJ1_indexOfChar_4cfef 22 = .ok (.iload 5, 2) := by decide +kernel
theorem dJ1_indexOfChar_4cfef_24 : decode cJ1_indexOfChar_4cfef 24 = .ok (.ireturn, 1) := by decide +kernel
theorem dJ1_indexOfChar_4cfef_25 : decode cJ1_indexOfChar_4cfef 25 = .ok (.iinc 5 1, 3) := by decide +kernel
theorem dJ1_indexOfChar_4cfef_28 : decode cJ1_indexOfChar_4cfef 28 = .ok (.goto (-21), 3) := by decide +kernel
theorem dJ1_indexOfChar_4cfef_31 : decode cJ1_indexOfChar_4cfef 31 = .ok (.iconst (-1), 1) := by decide +kernel
theorem dJ1_indexOfChar_4cfef_32 : decode cJ1_indexOfChar_4cfef 32 = .ok (.ireturn, 1) := by decide +kernel
theorem dJ2_getChar_3b067_0 : decode cJ2_getChar_3b067 0 = .ok (.getstatic 44, 3) := by decide +kernel
theorem dJ2_getChar_3b067_3 : decode cJ2_getChar_3b067 3 = .ok (.ifCond .ne 25, 3) := by decide +kernel
theorem dJ2_getChar_3b067_6 : decode cJ2_getChar_3b067 6 = .ok (.iload_n 1, 1) := by decide +kernel
theorem dJ2_getChar_3b067_7 : decode cJ2_getChar_3b067 7 = .ok (.ifCond .lt 11, 3) := by decide +kernel
theorem dJ2_getChar_3b067_10 : decode cJ2_getChar_3b067 10 = .ok (.iload_n 1, 1) := by decide +kernel
theorem dJ2_getChar_3b067_11 : decode cJ2_getChar_3b067 11 = .ok (.aload_n 0, 1) := by decide +kernel
theorem dJ2_getChar_3b067_12 : decode cJ2_getChar_3b067 12 = .ok (.invokestatic 48, 3) := by decide +kernel
theorem dJ2_getChar_3b067_15 : decode cJ2_getChar_3b067 15 = .ok (.if_icmp .lt 13, 3) := by decide +kernel
theorem dJ2_getChar_3b067_18 : decode cJ2_getChar_3b067 18 = .ok (.new 52, 3) := by decide +kernel
theorem dJ2_getChar_3b067_21 : decode cJ2_getChar_3b067 21 = .ok (.dup, 1) := by decide +kernel
theorem dJ2_getChar_3b067_22 : decode cJ2_getChar_3b067 22 = .ok (.ldc 54, 2) := by decide +kernel
theorem dJ2_getChar_3b067_24 : decode cJ2_getChar_3b067 24 = .ok (.invokespecial 56, 3) := by decide +kernel
theorem dJ2_getChar_3b067_27 : decode cJ2_getChar_3b067 27 = .ok (.athrow, 1) := by decide +kernel
theorem dJ2_getChar_3b067_28 : decode cJ2_getChar_3b067 28 = .ok (.iload_n 1, 1) := by decide +kernel
theorem dJ2_getChar_3b067_29 : decode cJ2_getChar_3b067 29 = .ok (.iconst 1, 1) := by decide +kernel
theorem dJ2_getChar_3b067_30 : decode cJ2_getChar_3b067 30 = .ok (.ishl, 1) := by decide +kernel
theorem dJ2_getChar_3b067_31 : decode cJ2_getChar_3b067 31 = .ok (.istore_n 1, 1) := by decide +kernel
theorem dJ2_getChar_3b067_32 : decode cJ2_getChar_3b067 32 = .ok (.aload_n 0, 1) := by decide +kernel
theorem dJ2_getChar_3b067_33 : decode cJ2_getChar_3b067 33 = .ok (.iload_n 1, 1) := by decide +kernel
theorem dJ2_getChar_3b067_34 : decode cJ2_getChar_3b067 34 = .ok (.iinc 1 1, 3) := by decide +kernel
theorem dJ2_getChar_3b067_37 : decode cJ2_getChar_3b067 37 = .ok (.baload, 1) := by decide +kernel
theorem dJ2_getChar_3b067_38 : decode cJ2_getChar_3b067 38 = .ok (.sipush 255, 3) := by decide +kernel
theorem dJ2_getChar_3b067_41 : decode cJ2_getChar_3b067 41 = .ok (.iand, 1) := by decide +kernel
theorem dJ2_getChar_3b067_42 : decode cJ2_getChar_3b067 42 = .ok (.getstatic 59, 3) := by decide +kernel
theorem dJ2_getChar_3b067_45 : decode cJ2_getChar_3b067 45 = .ok (.ishl, 1) := by decide +kernel
theorem dJ2_getChar_3b067_46 : decode cJ2_getChar_3b067 46 = .ok (.aload_n 0, 1) := by decide +kernel
theorem dJ2_getChar_3b067_47 : decode cJ2_getChar_3b067 47 = .ok (.iload_n 1, 1) := by decide +kernel
theorem dJ2_getChar_3b067_48 : decode cJ2_getChar_3b067 48 = .ok (.baload, 1) := by decide +kernel
theorem dJ2_getChar_3b067_49 : decode cJ2_getChar_3b067 49 = .ok (.sipush 255, 3) := by decide +kernel
theorem dJ2_getChar_3b067_52 : decode cJ2_getChar_3b067 52 = .ok (.iand, 1) := by decide +kernel
theorem dJ2_getChar_3b067_53 : decode cJ2_getChar_3b067 53 = .ok (.getstatic 63, 3) := by decide +kernel
theorem dJ2_getChar_3b067_56 : decode cJ2_getChar_3b067 56 = .ok (.ishl, 1) := by decide +kernel
theorem dJ2_getChar_3b067_57 : decode cJ2_getChar_3b067 57 = .ok (.ior, 1) := by decide +kernel
theorem dJ2_getChar_3b067_58 : decode cJ2_getChar_3b067 58 = .ok (.i2c, 1) := by decide +kernel
theorem dJ2_getChar_3b067_59 : decode cJ2_getChar_3b067 59 = .ok (.ireturn, 1) := by decide +kernel
theorem dJ2_length_9d52b_0 : decode cJ2_length_9d52b 0 = .ok (.aload_n 0, 1) := by decide +kernel
theorem dJ2_length_9d52b_1 : decode cJ2_length_9d52b 1 = .ok (.arraylength, 1) := by decide +kernel
theorem dJ2_length_9d52b_2 : decode cJ2_length_9d52b 2 = .ok (.iconst 1, 1) := by decide +kernel
theorem dJ2_length_9d52b_3 : decode cJ2_length_9d52b 3 = .ok (.ishr, 1) := by decide +kernel
theorem dJ2_length_9d52b_4 : decode cJ2_length_9d52b 4 = .ok (.ireturn, 1) := by decide +kernel
theorem dJ2_indexOf_4cfef_0 : decode cJ2_indexOf_4cfef 0 = .ok (.iload_n 2, 1) := by decide +kernel
theorem dJ2_indexOf_4cfef_1 : decode cJ2_indexOf_4cfef 1 = .ok (.iconst 0, 1) := by decide +kernel
theorem dJ2_indexOf_4cfef_2 : decode cJ2_indexOf_4cfef 2 = .ok (.invokestatic 224, 3) := by decide +kernel
theorem dJ2_indexOf_4cfef_5 : decode cJ2_indexOf_4cfef 5 = .ok (.istore_n 2, 1) := by decide +kernel
theorem dJ2_indexOf_4cfef_6 : decode cJ2_indexOf_4cfef 6 = .ok (.iload_n 3, 1) := by decide +kernel
theorem dJ2_indexOf_4cfef_7 : decode cJ2_indexOf_4cfef 7 = .ok (.aload_n 0, 1) := by decide +kernel
theorem dJ2_indexOf_4cfef_8 : decode cJ2_indexOf_4cfef 8 = .ok (.arraylength, 1) := by decide +kernel
theorem dJ2_indexOf_4cfef_9 : decode cJ2_indexOf_4cfef 9 = .ok (.iconst 1, 1) := by decide +kernel
theorem dJ2_indexOf_4cfef_10 : decode cJ2_indexOf_4cfef 10 = .ok (.ishr, 1) := by decide +kernel
theorem dJ2_indexOf_4cfef_11 : decode cJ2_indexOf_4cfef 11 = .ok (.invokestatic 183, 3) := by decide +kernel
theorem dJ2_indexOf_4cfef_14 : decode cJ2_indexOf_4cfef 14 = .ok (.istore_n 3, 1) := by decide +kernel
theorem dJ2_indexOf_4cfef_15 : decode cJ2_indexOf_4cfef 15 = .ok (.iload_n 2, 1) := by decide +kernel
theorem dJ2_indexOf_4cfef_16 : decode cJ2_indexOf_4cfef 16 = .ok (.iload_n 3, 1) := by decide +kernel
theorem dJ2_indexOf_4cfef_17 : decode cJ2_indexOf_4cfef 17 = .ok (.if_icmp .lt 5, 3) := by decide +kernel
theorem dJ2_indexOf_4cfef_20 : decode cJ2_indexOf_4cfef 20 = .ok (.iconst (-1), 1) := by decide +kernel
theorem dJ2_indexOf_4cfef_21 : decode cJ2_indexOf_4cfef 21 = .ok (.ireturn, 1) := by decide +kernel
theorem dJ2_indexOf_4cfef_22 : decode cJ2_indexOf_4cfef 22 = .ok (.iload_n 1, 1) := by decide +kernel
theorem dJ2_indexOf_4cfef_23 : decode cJ2_indexOf_4cfef 23 = .ok (.ldc 227, 2) := by decide +kernel
theorem dJ2_indexOf_4cfef_25 : decode cJ2_indexOf_4cfef 25 = .ok (.if_icmp .ge 11, 3) := by decide +kernel
theorem dJ2_indexOf_4cfef_28 : decode cJ2_indexOf_4cfef 28 = .ok (.aload_n 0, 1) := by decide +kernel
theorem dJ2_indexOf_4cfef_29 : decode cJ2_indexOf_4cfef 29 = .ok (.iload_n 1, 1) := by decide +kernel
theorem dJ2_indexOf_4cfef_30 : decode cJ2_indexOf_4cfef 30 = .ok (.iload_n 2, 1) := by decide +kernel
theorem dJ2_indexOf_4cfef_31 : decode cJ2_indexOf_4cfef 31 = .ok (.iload_n 3, 1) := by decide +kernel
theorem dJ2_indexOf_4cfef_32 : decode cJ2_indexOf_4cfef 32 = .ok (.invokestatic 228, 3) := by decide +kernel
theorem dJ2_indexOf_4cfef_35 : decode cJ2_indexOf_4cfef 35 = .ok (.ireturn, 1) := by decide +kernel
theorem dJ2_indexOf_4cfef_36 : decode cJ2_indexOf_4cfef 36 = .ok (.aload_n 0, 1) := by decide +kernel
theorem dJ2_indexOf_4cfef_37 : decode cJ2_indexOf_4cfef 37 = .ok (.iload_n 1, 1) := by decide +kernel
theorem dJ2_indexOf_4cfef_38 : decode cJ2_indexOf_4cfef 38 = .ok (.iload_n 2, 1) := by decide +kernel
theorem dJ2_indexOf_4cfef_39 : decode cJ2_indexOf_4cfef 39 = .ok (.iload_n 3, 1) := by decide +kernel
theorem dJ2_indexOf_4cfef_40 : decode cJ2_indexOf_4cfef 40 = .ok (.invokestatic 232, 3) := by decide +kernel
theorem dJ2_indexOf_4cfef_43 : decode cJ2_indexOf_4cfef 43 = .ok (.ireturn, 1) := by decide +kernel
theorem dJ2_indexOfChar_4cfef_0 : decode cJ2_indexOfChar_4cfef 0 = .ok (.iload_n 2, 1) := by decide +kernel
theorem dJ2_indexOfChar_4cfef_1 : decode cJ2_indexOfChar_4cfef 1 = .ok (.iload_n 3, 1) := by decide +kernel
theorem dJ2_indexOfChar_4cfef_2 : decode cJ2_indexOfChar_4cfef 2 = .ok (.aload_n 0, 1) := by decide +kernel
theorem dJ2_indexOfChar_4cfef_3 : decode cJ2_indexOfChar_4cfef 3 = .ok (.invokestatic 96, 3) := by decide +kernel
theorem dJ2_indexOfChar_4cfef_6 : decode cJ2_indexOfChar_4cfef 6 = .ok (.aload_n 0, 1) := by decide +kernel
theorem dJ2_indexOfChar_4cfef_7 : decode cJ2_indexOfChar_4cfef 7 = .ok (.iload_n 1, 1) := by decide +kernel
theorem dJ2_indexOfChar_4cfef_8 : decode cJ2_indexOfChar_4cfef 8 = .ok (.iload_n 2, 1) := by decide +kernel
theorem dJ2_indexOfChar_4cfef_9 : decode cJ2_indexOfChar_4cfef 9 = .ok (.iload_n 3, 1) := by decide +kernel
theorem dJ2_indexOfChar_4cfef_10 : decode cJ2_indexOfChar_4cfef 10 = .ok (.invokestatic 244, 3) := by decide +kernel
theorem dJ2_indexOfChar_4cfef_13 : decode cJ2_indexOfChar_4cfef 13 = .ok (.ireturn, 1) := by decide +kernel
theorem dJ2_indexOfCharUnsafe_4cfef_0 : decode cJ2_indexOfCharUnsafe_4cfef 0 = .ok (.iload_n 2, 1) := by decide +kernel
theorem dJ2_indexOfCharUnsafe_4cfef_1 : decode cJ2_indexOfCharUnsafe_4cfef 1 = .ok (.istore 4, 2) := by decide +kernel
theorem dJ2_indexOfCharUnsafe_4cfef_3 : decode cJ2_indexOfCharUnsafe_4cfef 3 = .ok (.iload 4, 2) := by decide +kernel
theorem dJ2_indexOfCharUnsafe_4cfef_5 : decode cJ2_indexOfCharUnsafe_4cfef 5 = .ok (.iload_n 3, 1) := by decide +kernel
theorem dJ2_indexOfCharUnsafe_4cfef_6 : decode cJ2_indexOfCharUnsafe_4cfef 6 = .ok (.if_icmp .ge 22, 3) := by decide +kernel
theorem dJ2_indexOfCharUnsafe_4cfef_9 : decode cJ2_indexOfCharUnsafe_4cfef 9 = .ok (.aload_n 0, 1) := by decide +kernel
theorem dJ2_indexOfCharUnsafe_4cfef_10 : decode cJ2_indexOfCharUnsafe_4cfef 10 = .ok (.iload 4, 2) := by decide +kernel
theorem dJ2_indexOfCharUnsafe_4cfef_12 : decode cJ2_indexOfCharUnsafe_4cfef 12 = .ok (.invokestatic 71, 3) := by decide +kernel
theorem dJ2_indexOfCharUnsafe_4cfef_15 : decode cJ2_indexOfCharUnsafe_4cfef 15 = .ok (.iload_n 1, 1) := by decide +kernel
theorem dJ2_indexOfCharUnsafe_4cfef_16 : decode cJ2_indexOfCharUnsafe_4cfef 16 = .ok (.if_icmp .ne 6, 3) := by decide +kernel
theorem dJ2_indexOfCharUnsafe_4cfef_19 : decode cJ2_indexOfCharUnsafe_4cfef 19 = .ok (.iload 4, 2) := by decide +kernel
theorem dJ2_indexOfCharUnsafe_4cfef_21 : decode cJ2_indexOfCharUnsafe_4cfef 21 = .ok (.ireturn, 1) := by decide +kernel
theorem dJ2_indexOfCharUnsafe_4cfef_22 : decode cJ2_indexOfCharUnsafe_4cfef 22 = .ok (.iinc 4 1, 3) := by decide +kernel
theorem dJ2_indexOfCharUnsafe_4cfef_25 : decode cJ2_indexOfCharUnsafe_4cfef 25 = .ok (.goto (-22), 3) := by decide +kernel
theorem dJ2_indexOfCharUnsafe_4cfef_28 : decode cJ2_indexOfCharUnsafe_4cfef 28 = .ok (.iconst (-1), 1) := by decide +kernel
theorem dJ2_indexOfCharUnsafe_4cfef_29 : decode cJ2_indexOfCharUnsafe_4cfef 29 = .ok (.ireturn, 1) := by decide +kernel
theorem dJ2_indexOfSupplementary_4cfef_0 : decode cJ2_indexOfSupplementary_4cfef 0 = .ok (.iload_n 1, 1) := by decide +kernel
theorem dJ2_indexOfSupplementary_4cfef_1 : decode cJ2_indexOfSupplementary_4cfef 1 = .ok (.invokestatic 164, 3) := by decide +kernel
theorem dJ2_indexOfSupplementary_4cfef_4 : decode cJ2_indexOfSupplementary_4cfef 4 = .ok (.ifCond .eq 65, 3) := by decide +kernel
theorem dJ2_indexOfSupplementary_4cfef_7 : decode cJ2_indexOfSupplementary_4cfef 7 = .ok (.iload_n 1, 1) := by decide +kernel
theorem dJ2_indexOfSupplementary_4cfef_8 : decode cJ2_indexOfSupplementary_4cfef 8 = .ok (.invokestatic 157, 3) := by decide +kernel
theorem dJ2_indexOfSupplementary_4cfef_11 : decode cJ2_indexOfSupplementary_4cfef 11 = .ok (.istore 4, 2) := by decide +kernel
theorem dJ2_indexOfSupplementary_4cfef_13 : decode cJ2_indexOfSupplementary_4cfef 13 = .ok (.iload_n 1, 1) := by decide +kernel
theorem dJ2_indexOfSupplementary_4cfef_14 : decode cJ2_indexOfSupplementary_4cfef 14 = .ok (.invokestatic 161, 3) := by decide +kernel
theorem dJ2_indexOfSupplementary_4cfef_17 : decode cJ2_indexOfSupplementary_4cfef 17 = .ok (.istore 5, 2) := by decide +kernel
theorem dJ2_indexOfSupplementary_4cfef_19 : decode cJ2_indexOfSupplementary_4cfef 19 = .ok (.iload_n 2, 1) := by decide +kernel
theorem dJ2_indexOfSupplementary_4cfef_20 : decode cJ2_indexOfSupplementary_4cfef 20 = .ok (.iload_n 3, 1) := by decide +kernel
theorem dJ2_indexOfSupplementary_4cfef_21 : decode cJ2_indexOfSupplementary_4cfef 21 = .ok (.aload_n 0, 1) := by decide +kernel
theorem dJ2_indexOfSupplementary_4cfef_22 : decode cJ2_indexOfSupplementary_4cfef 22 = .ok (.invokestatic 96, 3) := by decide +kernel
theorem dJ2_indexOfSupplementary_4cfef_25 : decode cJ2_indexOfSupplementary_4cfef 25 = .ok (.iload_n 2, 1) := by decide +kernel
theorem dJ2_indexOfSupplementary_4cfef_26 : decode cJ2_indexOfSupplementary_4cfef 26 = .ok (.istore 6, 2) := by decide +kernel
theorem dJ2_indexOfSupplementary_4cfef_28 : decode cJ2_indexOfSupplementary_4cfef 28 = .ok (.iload 6, 2) := by decide +kernel
theorem dJ2_indexOfSupplementary_4cfef_30 : decode cJ2_indexOfSupplementary_4cfef 30 = .ok (.iload_n 3, 1) := by decide +kernel
theorem dJ2_indexOfSupplementary_4cfef_31 : decode cJ2_indexOfSupplementary_4cfef 31 = .ok (.iconst 1, 1) := by decide +kernel
theorem dJ2_indexOfSupplementary_4cfef_32 : decode cJ2_indexOfSupplementary_4cfef 32 = .ok (.isub, 1) := by decide +kernel
theorem dJ2_indexOfSupplementary_4cfef_33 : decode cJ2_indexOfSupplementary_4cfef 33 = .ok (.if_icmp .ge 36, 3) := by decide +kernel
theorem dJ2_indexOfSupplementary_4cfef_36 : decode cJ2_indexOfSupplementary_4cfef 36 = .ok (.aload_n 0, 1) := by decide +kernel
theorem dJ2_indexOfSupplementary_4cfef_37 : decode cJ2_indexOfSupplementary_4cfef 37 = .ok (.iload 6, 2) := by decide +kernel
theorem dJ2_indexOfSupplementary_4cfef_39 : decode cJ2_indexOfSupplementary_4cfef 39 = .ok (.invokestatic 71, 3) := by decide +kernel
theorem dJ2_indexOfSupplementary_4cfef_42 : decode cJ2_indexOfSupplementary_4cfef 42 = .ok (.iload 4, 2) := by decide +kernel
theorem dJ2_indexOfSupplementary_4cfef_44 : decode cJ2_indexOfSupplementary_4cfef 44 = .ok (.if_icmp .ne 19, 3) := by decide +kernel
theorem dJ2_indexOfSupplementary_4cfef_47 : decode cJ2_indexOfSupplementary_4cfef 47 = .ok (.aload_n 0, 1) := by decide +kernel
theorem dJ2_indexOfSupplementary_4cfef_48 : decode cJ2_indexOfSupplementary_4cfef 48 = .ok (.iload 6, 2) := by decide +kernel
theorem dJ2_indexOfSupplementary_4cfef_50 : decode cJ2_indexOfSupplementary_4cfef 50 = .ok (.iconst 1, 1) := by decide +kernel
theorem dJ2_indexOfSupplementary_4cfef_51 : decode cJ2_indexOfSupplementary_4cfef 51 = .ok (.iadd, 1) := by decide +kernel
theorem dJ2_indexOfSupplementary_4cfef_52 : decode cJ2_indexOfSupplementary_4cfef 52 = .ok (.invokestatic 71, 3) := by decide +kernel
theorem dJ2_indexOfSupplementary_4cfef_55 : decode cJ2_indexOfSupplementary_4cfef 55 = .ok (.iload 5, 2) := by decide +kernel
theorem dJ2_indexOfSupplementary_4cfef_57 : decode cJ2_indexOfSupplementary_4cfef 57 = .ok (.if_icmp .ne 6, 3) := by decide +kernel
theorem dJ2_indexOfSupplementary_4cfef_60 : decode cJ2_indexOfSupplementary_4cfef 60 = .ok (.iload 6, 2) := by decide +kernel
theorem dJ2_indexOfSupplementary_4cfef_62 : decode cJ2_indexOfSupplementary_4cfef 62 = .ok (.ireturn, 1) := by decide +kernel
theorem dJ2_indexOfSupplementary_4cfef_63 : decode cJ2_indexOfSupplementary_4cfef 63 = .ok (.iinc 6 1, 3) := by decide +kernel
theorem dJ2_indexOfSupplementary_4cfef_66 : decode cJ2_indexOfSupplementary_4cfef 66 = .ok (.goto (-38), 3) := by decide +kernel
theorem dJ2_indexOfSupplementary_4cfef_69 : decode cJ2_indexOfSupplementary_4cfef 69 = .ok (.iconst (-1), 1) := by decide +kernel
theorem dJ2_indexOfSupplementary_4cfef_70 : decode cJ2_indexOfSupplementary_4cfef 70 = .ok (.ireturn, 1) := by decide +kernel
theorem dJ2_charAt_3b067_0 : decode cJ2_charAt_3b067 0 = .ok (.iload_n 1, 1) := by decide +kernel
theorem dJ2_charAt_3b067_1 : decode cJ2_charAt_3b067 1 = .ok (.aload_n 0, 1) := by decide +kernel
theorem dJ2_charAt_3b067_2 : decode cJ2_charAt_3b067 2 = .ok (.invokestatic 67, 3) := by decide +kernel
theorem dJ2_charAt_3b067_5 : decode cJ2_charAt_3b067 5 = .ok (.aload_n 0, 1) := by decide +kernel
theorem dJ2_charAt_3b067_6 : decode cJ2_charAt_3b067 6 = .ok (.iload_n 1, 1) := by decide +kernel
theorem dJ2_charAt_3b067_7 : decode cJ2_charAt_3b067 7 = .ok (.invokestatic 71, 3) := by decide +kernel
theorem dJ2_charAt_3b067_10 : decode cJ2_charAt_3b067 10 = .ok (.ireturn, 1) := by decide +kernel
theorem dJ2_checkIndex_2214a_0 : decode cJ2_checkIndex_2214a 0 = .ok (.iload_n 0, 1) := by decide +kernel
theorem dJ2_checkIndex_2214a_1 : decode cJ2_checkIndex_2214a 1 = .ok (.aload_n 1, 1) := by decide +kernel
theorem dJ2_checkIndex_2214a_2 : decode cJ2_checkIndex_2214a 2 = .ok (.invokestatic 48, 3) := by decide +kernel
theorem dJ2_checkIndex_2214a_5 : decode cJ2_checkIndex_2214a 5 = .ok (.invokestatic 414, 3) := by decide +kernel
theorem dJ2_checkIndex_2214a_8 : decode cJ2_checkIndex_2214a 8 = .ok (.return_, 1) := by decide +kernel
theorem dJ2_checkBoundsBeginEnd_d044e_0 : decode cJ2_checkBoundsBeginEnd_d044e 0 = .ok (.iload_n 0, 1) := by decide +kernel
theorem dJ2_checkBoundsBeginEnd_d044e_1 : decode cJ2_checkBoundsBeginEnd_d044e 1 = .ok (.iload_n 1, 1) := by decide +kernel
theorem dJ2_checkBoundsBeginEnd_d044e_2 : decode cJ2_checkBoundsBeginEnd_d044e 2 = .ok (.aload_n 2, 1) := by decide +kernel
theorem dJ2_checkBoundsBeginEnd_d044e_3 : decode cJ2_checkBoundsBeginEnd_d044e 3 = .ok (.invokestatic 48, 3) := by decide +kernel
theorem dJ2_checkBoundsBeginEnd_d044e_6 : decode cJ2_checkBoundsBeginEnd_d044e 6 = .ok (.invokestatic 241, 3) := by decide +kernel
theorem dJ2_checkBoundsBeginEnd_d044e_9 : decode cJ2_checkBoundsBeginEnd_d044e 9 = .ok (.return_, 1) := by decide +kernel
theorem dJ3_checkIndex_8e157_0 : decode cJ3_checkIndex_8e157 0 = .ok (.iload_n 0, 1) := by decide +kernel
theorem dJ3_checkIndex_8e157_1 : decode cJ3_checkIndex_8e157 1 = .ok (.ifCond .lt 8, 3) := by decide +kernel
theorem dJ3_checkIndex_8e157_4 : decode cJ3_checkIndex_8e157 4 = .ok (.iload_n 0, 1) := by decide +kernel
theorem dJ3_checkIndex_8e157_5 : decode cJ3_checkIndex_8e157 5 = .ok (.iload_n 1, 1) := by decide +kernel
theorem dJ3_checkIndex_8e157_6 : decode cJ3_checkIndex_8e157 6 = .ok (.if_icmp .lt 10, 3) := by decide +kernel
theorem dJ3_checkIndex_8e157_9 : decode cJ3_checkIndex_8e157 9 = .ok (.aload_n 2, 1) := by decide +kernel
theorem dJ3_checkIndex_8e157_10 : decode cJ3_checkIndex_8e157 10 = .ok (.iload_n 0, 1) := by decide +kernel
theorem dJ3_checkIndex_8e157_11 : decode cJ3_checkIndex_8e157 11 = .ok (.iload_n 1, 1) := by decide +kernel
theorem dJ3_checkIndex_8e157_12 : decode cJ3_checkIndex_8e157 12 = .ok (.invokestatic 95, 3) := by decide +kernel
theorem dJ3_checkIndex_8e157_15 : decode cJ3_checkIndex_8e157 15 = .ok (.athrow, 1) := by decide +kernel
theorem dJ3_checkIndex_8e157_16 : decode cJ3_checkIndex_8e157 16 = .ok (.iload_n 0, 1) := by decide +kernel
theorem dJ3_checkIndex_8e157_17 : decode cJ3_checkIndex_8e157 17 = .ok (.ireturn, 1) := by decide +kernel
theorem dJ3_checkFromToIndex_8c36e_0 : decode cJ3_checkFromToIndex_8c36e 0 = .ok (.iload_n 0, 1) := by decide +kernel
theorem dJ3_checkFromToIndex_8c36e_1 : decode cJ3_checkFromToIndex_8c36e 1 = .ok (.ifCond .lt 13, 3) := by decide +kernel
theorem dJ3_checkFromToIndex_8c36e_4 : decode cJ3_checkFromToIndex_8c36e 4 = .ok (.iload_n 0, 1) := by decide +kernel
theorem dJ3_checkFromToIndex_8c36e_5 : decode cJ3_checkFromToIndex_8c36e 5 = .ok (.iload_n 1, 1) := by decide +kernel
theorem dJ3_checkFromToIndex_8c36e_6 : decode cJ3_checkFromToIndex_8c36e 6 = .ok (.if_icmp .gt 8, 3) := by decide +kernel
theorem dJ3_checkFromToIndex_8c36e_9 : decode cJ3_checkFromToIndex_8c36e 9 = .ok (.iload_n 1, 1) := by decide +kernel
theorem dJ3_checkFromToIndex_8c36e_10 : decode cJ3_checkFromToIndex_8c36e 10 = .ok (.iload_n 2, 1) := by decide +kernel
theorem dJ3_checkFromToIndex_8c36e_11 : decode cJ3_checkFromToIndex_8c36e 11 = .ok (.if_icmp .le 11, 3) := by decide +kernel
theorem dJ3_checkFromToIndex_8c36e_14 : decode cJ3_checkFromToIndex_8c36e 14 = .ok (.aload_n 3, 1) := by decide +kernel
theorem dJ3_checkFromToIndex_8c36e_15 : decode cJ3_checkFromToIndex_8c36e 15 = .ok (.iload_n 0, 1) := by decide +kernel
theorem dJ3_checkFromToIndex_8c36e_16 : decode cJ3_checkFromToIndex_8c36e 16 = .ok (.iload_n 1, 1) := by decide +kernel
theorem dJ3_checkFromToIndex_8c36e_17 : decode cJ3_checkFromToIndex_8c36e 17 = .ok (.iload_n 2, 1) := by decide +kernel
theorem dJ3_checkFromToIndex_8c36e_18 : decode cJ3_checkFromToIndex_8c36e 18 = .ok (.invokestatic 99, 3) := by decide +kernel
theorem dJ3_checkFromToIndex_8c36e_21 : decode cJ3_checkFromToIndex_8c36e 21 = .ok (.athrow, 1) := by decide +kernel
theorem dJ3_checkFromToIndex_8c36e_22 : decode cJ3_checkFromToIndex_8c36e 22 = .ok (.iload_n 0, 1) := by decide +kernel
theorem dJ3_checkFromToIndex_8c36e_23 : decode cJ3_checkFromToIndex_8c36e 23 = .ok (.ireturn, 1) := by decide +kernel

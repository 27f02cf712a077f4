/-! THE MODEL's calls: rows -/
theorem dX6_row_0 : decode cX6_row 0 = .ok (.iload_n 1, 1) := by decide +kernel
theorem dX6_row_1 : decode cX6_row 1 = .ok (.invokestatic 58, 3) := by decide +kernel
theorem dX6_row_4 : decode cX6_row 4 = .ok (.ifCond .eq 21, 3) := by decide +kernel
theorem dX6_row_7 : decode cX6_row 7 = .ok (.iload_n 2, 1) := by decide +kernel
theorem dX6_row_8 : decode cX6_row 8 = .ok (.i2l, 1) := by decide +kernel
theorem dX6_row_9 : decode cX6_row 9 = .ok (.lconst 0, 1) := by decide +kernel
theorem dX6_row_10 : decode cX6_row 10 = .ok (.ldc2_w 62, 3) := by decide +kernel
theorem dX6_row_13 : decode cX6_row 13 = .ok (.invokestatic 54, 3) := by decide +kernel
theorem dX6_row_16 : decode cX6_row 16 = .ok (.ifCond .eq 9, 3) := by decide +kernel
theorem dX6_row_19 : decode cX6_row 19 = .ok (.iload_n 3, 1) := by decide +kernel
theorem dX6_row_20 : decode cX6_row 20 = .ok (.bipush 40, 2) := by decide +kernel
theorem dX6_row_22 : decode cX6_row 22 = .ok (.if_icmp .le 6, 3) := by decide +kernel
theorem dX6_row_25 : decode cX6_row 25 = .ok (.ldc 64, 2) := by decide +kernel
theorem dX6_row_27 : decode cX6_row 27 = .ok (.ireturn, 1) := by decide +kernel
theorem dX6_row_28 : decode cX6_row 28 = .ok (.iload_n 3, 1) := by decide +kernel
theorem dX6_row_29 : decode cX6_row 29 = .ok (.ifCond .ge 9, 3) := by decide +kernel
theorem dX6_row_32 : decode cX6_row 32 = .ok (.aload_n 0, 1) := by decide +kernel
theorem dX6_row_33 : decode cX6_row 33 = .ok (.iconst 4, 1) := by decide +kernel
theorem dX6_row_34 : decode cX6_row 34 = .ok (.invokevirtual 65, 3) := by decide +kernel
theorem dX6_row_37 : decode cX6_row 37 = .ok (.ireturn, 1) := by decide +kernel
theorem dX6_row_38 : decode cX6_row 38 = .ok (.aload_n 0, 1) := by decide +kernel
theorem dX6_row_39 : decode cX6_row 39 = .ok (.getfield 26, 3) := by decide +kernel
theorem dX6_row_42 : decode cX6_row 42 = .ok (.iload_n 1, 1) := by decide +kernel
theorem dX6_row_43 : decode cX6_row 43 = .ok (.iload_n 3, 1) := by decide +kernel
theorem dX6_row_44 : decode cX6_row 44 = .ok (.iastore, 1) := by decide +kernel
theorem dX6_row_45 : decode cX6_row 45 = .ok (.aload_n 0, 1) := by decide +kernel
theorem dX6_row_46 : decode cX6_row 46 = .ok (.getfield 29, 3) := by decide +kernel
theorem dX6_row_49 : decode cX6_row 49 = .ok (.iload_n 1, 1) := by decide +kernel
theorem dX6_row_50 : decode cX6_row 50 = .ok (.iload_n 2, 1) := by decide +kernel
theorem dX6_row_51 : decode cX6_row 51 = .ok (.iastore, 1) := by decide +kernel
theorem dX6_row_52 : decode cX6_row 52 = .ok (.iconst 0, 1) := by decide +kernel
theorem dX6_row_53 : decode cX6_row 53 = .ok (.istore 4, 2) := by decide +kernel
theorem dX6_row_55 : decode cX6_row 55 = .ok (.iload 4, 2) := by decide +kernel
theorem dX6_row_57 : decode cX6_row 57 = .ok (.bipush 40, 2) := by decide +kernel
theorem dX6_row_59 : decode cX6_row 59 = .ok (.if_icmp .ge 22, 3) := by decide +kernel
theorem dX6_row_62 : decode cX6_row 62 = .ok (.aload_n 0, 1) := by decide +kernel
theorem dX6_row_63 : decode cX6_row 63 = .ok (.getfield 32, 3) := by decide +kernel
theorem dX6_row_66 : decode cX6_row 66 = .ok (.bipush 40, 2) := by decide +kernel
theorem dX6_row_68 : decode cX6_row 68 = .ok (.iload_n 1, 1) := by decide +kernel
theorem dX6_row_69 : decode cX6_row 69 = .ok (.imul, 1) := by decide +kernel
theorem dX6_row_70 : decode cX6_row 70 = .ok (.iload 4, 2) := by decide +kernel
theorem dX6_row_72 : decode cX6_row 72 = .ok (.iadd, 1) := by decide +kernel
theorem dX6_row_73 : decode cX6_row 73 = .ok (.iconst 0, 1) := by decide +kernel
theorem dX6_row_74 : decode cX6_row 74 = .ok (.iastore, 1) := by decide +kernel
theorem dX6_row_75 : decode cX6_row 75 = .ok (.iinc 4 1, 3) := by decide +kernel
theorem dX6_row_78 : decode cX6_row 78 = .ok (.goto (-23), 3) := by decide +kernel
theorem dX6_row_81 : decode cX6_row 81 = .ok (.aload_n 0, 1) := by decide +kernel
theorem dX6_row_82 : decode cX6_row 82 = .ok (.iload_n 3, 1) := by decide +kernel
theorem dX6_row_83 : decode cX6_row 83 = .ok (.invokevirtual 69, 3) := by decide +kernel
theorem dX6_row_86 : decode cX6_row 86 = .ok (.ireturn, 1) := by decide +kernel
theorem dX6_set_0 : decode cX6_set 0 = .ok (.iload_n 1, 1) := by decide +kernel
theorem dX6_set_1 : decode cX6_set 1 = .ok (.invokestatic 58, 3) := by decide +kernel
theorem dX6_set_4 : decode cX6_set 4 = .ok (.ifCond .ne 6, 3) := by decide +kernel
theorem dX6_set_7 : decode cX6_set 7 = .ok (.ldc 64, 2) := by decide +kernel
theorem dX6_set_9 : decode cX6_set 9 = .ok (.ireturn, 1) := by decide +kernel
theorem dX6_set_10 : decode cX6_set 10 = .ok (.aload_n 0, 1) := by decide +kernel
theorem dX6_set_11 : decode cX6_set 11 = .ok (.getfield 26, 3) := by decide +kernel
theorem dX6_set_14 : decode cX6_set 14 = .ok (.iload_n 1, 1) := by decide +kernel
theorem dX6_set_15 : decode cX6_set 15 = .ok (.iaload, 1) := by decide +kernel
theorem dX6_set_16 : decode cX6_set 16 = .ok (.ifCond .ge 9, 3) := by decide +kernel
theorem dX6_set_19 : decode cX6_set 19 = .ok (.aload_n 0, 1) := by decide +kernel
theorem dX6_set_20 : decode cX6_set 20 = .ok (.iconst 1, 1) := by decide +kernel
theorem dX6_set_21 : decode cX6_set 21 = .ok (.invokevirtual 65, 3) := by decide +kernel
theorem dX6_set_24 : decode cX6_set 24 = .ok (.ireturn, 1) := by decide +kernel
theorem dX6_set_25 : decode cX6_set 25 = .ok (.iload_n 2, 1) := by decide +kernel
theorem dX6_set_26 : decode cX6_set 26 = .ok (.i2l, 1) := by decide +kernel
theorem dX6_set_27 : decode cX6_set 27 = .ok (.lconst 0, 1) := by decide +kernel
theorem dX6_set_28 : decode cX6_set 28 = .ok (.aload_n 0, 1) := by decide +kernel
theorem dX6_set_29 : decode cX6_set 29 = .ok (.getfield 26, 3) := by decide +kernel
theorem dX6_set_32 : decode cX6_set 32 = .ok (.iload_n 1, 1) := by decide +kernel
theorem dX6_set_33 : decode cX6_set 33 = .ok (.iaload, 1) := by decide +kernel
theorem dX6_set_34 : decode cX6_set 34 = .ok (.iconst 1, 1) := by decide +kernel
theorem dX6_set_35 : decode cX6_set 35 = .ok (.isub, 1) := by decide +kernel
theorem dX6_set_36 : decode cX6_set 36 = .ok (.i2l, 1) := by decide +kernel
theorem dX6_set_37 : decode cX6_set 37 = .ok (.invokestatic 54, 3) := by decide +kernel
theorem dX6_set_40 : decode cX6_set 40 = .ok (.ifCond .ne 9, 3) := by decide +kernel
theorem dX6_set_43 : decode cX6_set 43 = .ok (.aload_n 0, 1) := by decide +kernel
theorem dX6_set_44 : decode cX6_set 44 = .ok (.iconst 2, 1) := by decide +kernel
theorem dX6_set_45 : decode cX6_set 45 = .ok (.invokevirtual 65, 3) := by decide +kernel
theorem dX6_set_48 : decode cX6_set 48 = .ok (.ireturn, 1) := by decide +kernel
theorem dX6_set_49 : decode cX6_set 49 = .ok (.aload_n 0, 1) := by decide +kernel
theorem dX6_set_50 : decode cX6_set 50 = .ok (.getfield 32, 3) := by decide +kernel
theorem dX6_set_53 : decode cX6_set 53 = .ok (.bipush 40, 2) := by decide +kernel
theorem dX6_set_55 : decode cX6_set 55 = .ok (.iload_n 1, 1) := by decide +kernel
theorem dX6_set_56 : decode cX6_set 56 = .ok (.imul, 1) := by decide +kernel
theorem dX6_set_57 : decode cX6_set 57 = .ok (.iload_n 2, 1) := by decide +kernel
theorem dX6_set_58 : decode cX6_set 58 = .ok (.iadd, 1) := by decide +kernel
theorem dX6_set_59 : decode cX6_set 59 = .ok (.aload_n 0, 1) := by decide +kernel
theorem dX6_set_60 : decode cX6_set 60 = .ok (.getfield 29, 3) := by decide +kernel
theorem dX6_set_63 : decode cX6_set 63 = .ok (.iload_n 1, 1) := by decide +kernel
theorem dX6_set_64 : decode cX6_set 64 = .ok (.iaload, 1) := by decide +kernel
theorem dX6_set_65 : decode cX6_set 65 = .ok (.ifCond .ne 8, 3) := by decide +kernel
theorem dX6_set_68 : decode cX6_set 68 = .ok (.iload_n 3, 1) := by decide +kernel
theorem dX6_set_69 : decode cX6_set 69 = .ok (.i2b, 1) := by decide +kernel
theorem dX6_set_70 : decode cX6_set 70 = .ok (.goto 19, 3) := by decide +kernel
theorem dX6_set_73 : decode cX6_set 73 = .ok (.aload_n 0, 1) := by decide +kernel
theorem dX6_set_74 : decode cX6_set 74 = .ok (.getfield 29, 3) := by decide +kernel
theorem dX6_set_77 : decode cX6_set 77 = .ok (.iload_n 1, 1) := by decide +kernel
theorem dX6_set_78 : decode cX6_set 78 = .ok (.iaload, 1) := by decide +kernel
theorem dX6_set_79 : decode cX6_set 79 = .ok (.iconst 1, 1) := by decide +kernel
theorem dX6_set_80 : decode cX6_set 80 = .ok (.if_icmp .ne 8, 3) := by decide +kernel
theorem dX6_set_83 : decode cX6_set 83 = .ok (.iload_n 3, 1) := by decide +kernel
theorem dX6_set_84 : decode cX6_set 84 = .ok (.i2s, 1) := by decide +kernel
theorem dX6_set_85 : decode cX6_set 85 = .ok (.goto 4, 3) := by decide +kernel
theorem dX6_set_88 : decode cX6_set 88 = .ok (.iload_n 3, 1) := by decide +kernel
theorem dX6_set_89 : decode cX6_set 89 = .ok (.iastore, 1) := by decide +kernel
theorem dX6_set_90 : decode cX6_set 90 = .ok (.aload_n 0, 1) := by decide +kernel
theorem dX6_set_91 : decode cX6_set 91 = .ok (.aload_n 0, 1) := by decide +kernel
theorem dX6_set_92 : decode cX6_set 92 = .ok (.getfield 32, 3) := by decide +kernel
theorem dX6_set_95 : decode cX6_set 95 = .ok (.bipush 40, 2) := by decide +kernel
theorem dX6_set_97 : decode cX6_set 97 = .ok (.iload_n 1, 1) := by decide +kernel
theorem dX6_set_98 : decode cX6_set 98 = .ok (.imul, 1) := by decide +kernel
theorem dX6_set_99 : decode cX6_set 99 = .ok (.iload_n 2, 1) := by decide +kernel
theorem dX6_set_100 : decode cX6_set 100 = .ok (.iadd, 1) := by decide +kernel
theorem dX6_set_101 : decode cX6_set 101 = .ok (.iaload, 1) := by decide +kernel
theorem dX6_set_102 : decode cX6_set 102 = .ok (.invokevirtual 69, 3) := by decide +kernel
theorem dX6_set_105 : decode cX6_set 105 = .ok (.ireturn, 1) := by decide +kernel
theorem dX6_copy_0 : decode cX6_copy 0 = .ok (.iload_n 1, 1) := by decide +kernel
theorem dX6_copy_1 : decode cX6_copy 1 = .ok (.invokestatic 58, 3) := by decide +kernel
theorem dX6_copy_4 : decode cX6_copy 4 = .ok (.ifCond .eq 10, 3) := by decide +kernel
theorem dX6_copy_7 : decode cX6_copy 7 = .ok (.iload_n 3, 1) := by decide +kernel
theorem dX6_copy_8 : decode cX6_copy 8 = .ok (.invokestatic 58, 3) := by decide +kernel
theorem dX6_copy_11 : decode cX6_copy 11 = .ok (.ifCond .ne 6, 3) := by decide +kernel
theorem dX6_copy_14 : decode cX6_copy 14 = .ok (.ldc 64, 2) := by decide +kernel
theorem dX6_copy_16 : decode cX6_copy 16 = .ok (.ireturn, 1) := by decide +kernel
theorem dX6_copy_17 : decode cX6_copy 17 = .ok (.aload_n 0, 1) := by decide +kernel
theorem dX6_copy_18 : decode cX6_copy 18 = .ok (.getfield 26, 3) := by decide +kernel
theorem dX6_copy_21 : decode cX6_copy 21 = .ok (.iload_n 1, 1) := by decide +kernel
theorem dX6_copy_22 : decode cX6_copy 22 = .ok (.iaload, 1) := by decide +kernel
theorem dX6_copy_23 : decode cX6_copy 23 = .ok (.ifCond .lt 12, 3) := by decide +kernel
theorem dX6_copy_26 : decode cX6_copy 26 = .ok (.aload_n 0, 1) := by decide +kernel
theorem dX6_copy_27 : decode cX6_copy 27 = .ok (.getfield 26, 3) := by decide +kernel
theorem dX6_copy_30 : decode cX6_copy 30 = .ok (.iload_n 3, 1) := by decide +kernel
theorem dX6_copy_31 : decode cX6_copy 31 = .ok (.iaload, 1) := by decide +kernel
theorem dX6_copy_32 : decode cX6_copy 32 = .ok (.ifCond .ge 9, 3) := by decide +kernel
theorem dX6_copy_35 : decode cX6_copy 35 = .ok (.aload_n 0, 1) := by decide +kernel
theorem dX6_copy_36 : decode cX6_copy 36 = .ok (.iconst 1, 1) := by decide +kernel
theorem dX6_copy_37 : decode cX6_copy 37 = .ok (.invokevirtual 65, 3) := by decide +kernel
theorem dX6_copy_40 : decode cX6_copy 40 = .ok (.ireturn, 1) := by decide +kernel
theorem dX6_copy_41 : decode cX6_copy 41 = .ok (.aload_n 0, 1) := by decide +kernel
theorem dX6_copy_42 : decode cX6_copy 42 = .ok (.getfield 29, 3) := by decide +kernel
theorem dX6_copy_45 : decode cX6_copy 45 = .ok (.iload_n 1, 1) := by decide +kernel
theorem dX6_copy_46 : decode cX6_copy 46 = .ok (.iaload, 1) := by decide +kernel
theorem dX6_copy_47 : decode cX6_copy 47 = .ok (.aload_n 0, 1) := by decide +kernel
theorem dX6_copy_48 : decode cX6_copy 48 = .ok (.getfield 29, 3) := by decide +kernel
theorem dX6_copy_51 : decode cX6_copy 51 = .ok (.iload_n 3, 1) := by decide +kernel
theorem dX6_copy_52 : decode cX6_copy 52 = .ok (.iaload, 1) := by decide +kernel
theorem dX6_copy_53 : decode cX6_copy 53 = .ok (.if_icmp .eq 9, 3) := by decide +kernel
theorem dX6_copy_56 : decode cX6_copy 56 = .ok (.aload_n 0, 1) := by decide +kernel
theorem dX6_copy_57 : decode cX6_copy 57 = .ok (.iconst 5, 1) := by decide +kernel
theorem dX6_copy_58 : decode cX6_copy 58 = .ok (.invokevirtual 65, 3) := by decide +kernel
theorem dX6_copy_61 : decode cX6_copy 61 = .ok (.ireturn, 1) := by decide +kernel
theorem dX6_copy_62 : decode cX6_copy 62 = .ok (.iload_n 2, 1) := by decide +kernel
theorem dX6_copy_63 : decode cX6_copy 63 = .ok (.ifCond .lt 48, 3) := by decide +kernel
theorem dX6_copy_66 : decode cX6_copy 66 = .ok (.iload 4, 2) := by decide +kernel
theorem dX6_copy_68 : decode cX6_copy 68 = .ok (.ifCond .lt 43, 3) := by decide +kernel
theorem dX6_copy_71 : decode cX6_copy 71 = .ok (.iload 5, 2) := by decide +kernel
theorem dX6_copy_73 : decode cX6_copy 73 = .ok (.ifCond .lt 38, 3) := by decide +kernel
theorem dX6_copy_76 : decode cX6_copy 76 = .ok (.iload_n 2, 1) := by decide +kernel
theorem dX6_copy_77 : decode cX6_copy 77 = .ok (.i2l, 1) := by decide +kernel
theorem dX6_copy_78 : decode cX6_copy 78 = .ok (.iload 5, 2) := by decide +kernel
theorem dX6_copy_80 : decode cX6_copy 80 = .ok (.i2l, 1) := by decide +kernel
theorem dX6_copy_81 : decode cX6_copy 81 = .ok (.ladd, 1) := by decide +kernel
theorem dX6_copy_82 : decode cX6_copy 82 = .ok (.aload_n 0, 1) := by decide +kernel
theorem dX6_copy_83 : decode cX6_copy 83 = .ok (.getfield 26, 3) := by decide +kernel
theorem dX6_copy_86 : decode cX6_copy 86 = .ok (.iload_n 1, 1) := by decide +kernel
theorem dX6_copy_87 : decode cX6_copy 87 = .ok (.iaload, 1) := by decide +kernel
theorem dX6_copy_88 : decode cX6_copy 88 = .ok (.i2l, 1) := by decide +kernel
theorem dX6_copy_89 : decode cX6_copy 89 = .ok (.lcmp, 1) := by decide +kernel
theorem dX6_copy_90 : decode cX6_copy 90 = .ok (.ifCond .gt 21, 3) := by decide +kernel
theorem dX6_copy_93 : decode cX6_copy 93 = .ok (.iload 4, 2) := by decide +kernel
theorem dX6_copy_95 : decode cX6_copy 95 = .ok (.i2l, 1) := by decide +kernel
theorem dX6_copy_96 : decode cX6_copy 96 = .ok (.iload 5, 2) := by decide +kernel
theorem dX6_copy_98 : decode cX6_copy 98 = .ok (.i2l, 1) := by decide +kernel
theorem dX6_copy_99 : decode cX6_copy 99 = .ok (.ladd, 1) := by decide +kernel
theorem dX6_copy_100 : decode cX6_copy 100 = .ok (.aload_n 0, 1) := by decide +kernel
theorem dX6_copy_101 : decode cX6_copy 101 = .ok (.getfield 26, 3) := by decide +kernel
theorem dX6_copy_104 : decode cX6_copy 104 = .ok (.iload_n 3, 1) := by decide +kernel
theorem dX6_copy_105 : decode cX6_copy 105 = .ok (.iaload, 1) := by decide +kernel
theorem dX6_copy_106 : decode cX6_copy 106 = .ok (.i2l, 1) := by decide +kernel
theorem dX6_copy_107 : decode cX6_copy 107 = .ok (.lcmp, 1) := by decide +kernel
theorem dX6_copy_108 : decode cX6_copy 108 = .ok (.ifCond .le 9, 3) := by decide +kernel
theorem dX6_copy_111 : decode cX6_copy 111 = .ok (.aload_n 0, 1) := by decide +kernel
theorem dX6_copy_112 : decode cX6_copy 112 = .ok (.iconst 2, 1) := by decide +kernel
theorem dX6_copy_113 : decode cX6_copy 113 = .ok (.invokevirtual 65, 3) := by decide +kernel
theorem dX6_copy_116 : decode cX6_copy 116 = .ok (.ireturn, 1) := by decide +kernel
theorem dX6_copy_117 : decode cX6_copy 117 = .ok (.iload_n 2, 1) := by decide +kernel
theorem dX6_copy_118 : decode cX6_copy 118 = .ok (.iload 4, 2) := by decide +kernel
theorem dX6_copy_120 : decode cX6_copy 120 = .ok (.if_icmp .ge 7, 3) := by decide +kernel
theorem dX6_copy_123 : decode cX6_copy 123 = .ok (.iconst 1, 1) := by decide +kernel
theorem dX6_copy_124 : decode cX6_copy 124 = .ok (.goto 4, 3) := by decide +kernel
theorem dX6_copy_127 : decode cX6_copy 127 = .ok (.iconst 0, 1) := by decide +kernel
theorem dX6_copy_128 : decode cX6_copy 128 = .ok (.istore 6, 2) := by decide +kernel
theorem dX6_copy_130 : decode cX6_copy 130 = .ok (.iconst 0, 1) := by decide +kernel
theorem dX6_copy_131 : decode cX6_copy 131 = .ok (.istore 7, 2) := by decide +kernel
theorem dX6_copy_133 : decode cX6_copy 133 = .ok (.iload 7, 2) := by decide +kernel
theorem dX6_copy_135 : decode cX6_copy 135 = .ok (.iload 5, 2) := by decide +kernel
theorem dX6_copy_137 : decode cX6_copy 137 = .ok (.if_icmp .ge 57, 3) := by decide +kernel
theorem dX6_copy_140 : decode cX6_copy 140 = .ok (.iload 6, 2) := by decide +kernel
theorem dX6_copy_142 : decode cX6_copy 142 = .ok (.ifCond .eq 13, 3) := by decide +kernel
theorem dX6_copy_145 : decode cX6_copy 145 = .ok (.iload 5, 2) := by decide +kernel
theorem dX6_copy_147 : decode cX6_copy 147 = .ok (.iconst 1, 1) := by decide +kernel
theorem dX6_copy_148 : decode cX6_copy 148 = .ok (.isub, 1) := by decide +kernel
theorem dX6_copy_149 : decode cX6_copy 149 = .ok (.iload 7, 2) := by decide +kernel
theorem dX6_copy_151 : decode cX6_copy 151 = .ok (.isub, 1) := by decide +kernel
theorem dX6_copy_152 : decode cX6_copy 152 = .ok (.goto 5, 3) := by decide +kernel
theorem dX6_copy_155 : decode cX6_copy 155 = .ok (.iload 7, 2) := by decide +kernel
theorem dX6_copy_157 : decode cX6_copy 157 = .ok (.istore 8, 2) := by decide +kernel
theorem dX6_copy_159 : decode cX6_copy 159 = .ok (.aload_n 0, 1) := by decide +kernel
theorem dX6_copy_160 : decode cX6_copy 160 = .ok (.getfield 32, 3) := by decide +kernel
theorem dX6_copy_163 : decode cX6_copy 163 = .ok (.bipush 40, 2) := by decide +kernel
theorem dX6_copy_165 : decode cX6_copy 165 = .ok (.iload_n 3, 1) := by decide +kernel
theorem dX6_copy_166 : decode cX6_copy 166 = .ok (.imul, 1) := by decide +kernel
theorem dX6_copy_167 : decode cX6_copy 167 = .ok (.iload 4, 2) := by decide +kernel
theorem dX6_copy_169 : decode cX6_copy 169 = .ok (.iadd, 1) := by decide +kernel
theorem dX6_copy_170 : decode cX6_copy 170 = .ok (.iload 8, 2) := by decide +kernel
theorem dX6_copy_172 : decode cX6_copy 172 = .ok (.iadd, 1) := by decide +kernel
theorem dX6_copy_173 : decode cX6_copy 173 = .ok (.aload_n 0, 1) := by decide +kernel
theorem dX6_copy_174 : decode cX6_copy 174 = .ok (.getfield 32, 3) := by decide +kernel
theorem dX6_copy_177 : decode cX6_copy 177 = .ok (.bipush 40, 2) := by decide +kernel
theorem dX6_copy_179 : decode cX6_copy 179 = .ok (.iload_n 1, 1) := by decide +kernel
theorem dX6_copy_180 : decode cX6_copy 180 = .ok (.imul, 1) := by decide +kernel
theorem dX6_copy_181 : decode cX6_copy 181 = .ok (.iload_n 2, 1) := by decide +kernel
theorem dX6_copy_182 : decode cX6_copy 182 = .ok (.iadd, 1) := by decide +kernel
theorem dX6_copy_183 : decode cX6_copy 183 = .ok (.iload 8, 2) := by decide +kernel
theorem dX6_copy_185 : decode cX6_copy 185 = .ok (.iadd, 1) := by decide +kernel
theorem dX6_copy_186 : decode cX6_copy 186 = .ok (.iaload, 1) := by decide +kernel
theorem dX6_copy_187 : decode cX6_copy 187 = .ok (.iastore, 1) := by decide +kernel
theorem dX6_copy_188 : decode cX6_copy 188 = .ok (.iinc 7 1, 3) := by decide +kernel
theorem dX6_copy_191 : decode cX6_copy 191 = .ok (.goto (-58), 3) := by decide +kernel
theorem dX6_copy_194 : decode cX6_copy 194 = .ok (.aload_n 0, 1) := by decide +kernel
theorem dX6_copy_195 : decode cX6_copy 195 = .ok (.iload 5, 2) := by decide +kernel
theorem dX6_copy_197 : decode cX6_copy 197 = .ok (.invokevirtual 69, 3) := by decide +kernel
theorem dX6_copy_200 : decode cX6_copy 200 = .ok (.ireturn, 1) := by decide +kernel
theorem dX6_drop_0 : decode cX6_drop 0 = .ok (.iload_n 1, 1) := by decide +kernel
theorem dX6_drop_1 : decode cX6_drop 1 = .ok (.invokestatic 58, 3) := by decide +kernel
theorem dX6_drop_4 : decode cX6_drop 4 = .ok (.ifCond .ne 6, 3) := by decide +kernel
theorem dX6_drop_7 : decode cX6_drop 7 = .ok (.ldc 64, 2) := by decide +kernel
theorem dX6_drop_9 : decode cX6_drop 9 = .ok (.ireturn, 1) := by decide +kernel
theorem dX6_drop_10 : decode cX6_drop 10 = .ok (.aload_n 0, 1) := by decide +kernel
theorem dX6_drop_11 : decode cX6_drop 11 = .ok (.getfield 26, 3) := by decide +kernel
theorem dX6_drop_14 : decode cX6_drop 14 = .ok (.iload_n 1, 1) := by decide +kernel
theorem dX6_drop_15 : decode cX6_drop 15 = .ok (.iaload, 1) := by decide +kernel
theorem dX6_drop_16 : decode cX6_drop 16 = .ok (.ifCond .ge 9, 3) := by decide +kernel
theorem dX6_drop_19 : decode cX6_drop 19 = .ok (.aload_n 0, 1) := by decide +kernel
theorem dX6_drop_20 : decode cX6_drop 20 = .ok (.iconst 1, 1) := by decide +kernel
theorem dX6_drop_21 : decode cX6_drop 21 = .ok (.invokevirtual 65, 3) := by decide +kernel
theorem dX6_drop_24 : decode cX6_drop 24 = .ok (.ireturn, 1) := by decide +kernel
theorem dX6_drop_25 : decode cX6_drop 25 = .ok (.aload_n 0, 1) := by decide +kernel
theorem dX6_drop_26 : decode cX6_drop 26 = .ok (.getfield 26, 3) := by decide +kernel
theorem dX6_drop_29 : decode cX6_drop 29 = .ok (.iload_n 1, 1) := by decide +kernel
theorem dX6_drop_30 : decode cX6_drop 30 = .ok (.iaload, 1) := by decide +kernel
theorem dX6_drop_31 : decode cX6_drop 31 = .ok (.istore_n 2, 1) := by decide +kernel
theorem dX6_drop_32 : decode cX6_drop 32 = .ok (.aload_n 0, 1) := by decide +kernel
theorem dX6_drop_33 : decode cX6_drop 33 = .ok (.getfield 26, 3) := by decide +kernel
theorem dX6_drop_36 : decode cX6_drop 36 = .ok (.iload_n 1, 1) := by decide +kernel
theorem dX6_drop_37 : decode cX6_drop 37 = .ok (.iconst (-1), 1) := by decide +kernel
theorem dX6_drop_38 : decode cX6_drop 38 = .ok (.iastore, 1) := by decide +kernel
theorem dX6_drop_39 : decode cX6_drop 39 = .ok (.aload_n 0, 1) := by decide +kernel
theorem dX6_drop_40 : decode cX6_drop 40 = .ok (.iload_n 2, 1) := by decide +kernel
theorem dX6_drop_41 : decode cX6_drop 41 = .ok (.invokevirtual 69, 3) := by decide +kernel
theorem dX6_drop_44 : decode cX6_drop 44 = .ok (.ireturn, 1) := by decide +kernel
theorem inI_ne {v lo hi : Int32} (h : ¬ inI v lo hi = 0) : ¬ v < lo ∧ v ≤ hi := by
  unfold inI at h
  by_cases h1 : v < lo
  · rw [if_pos h1] at h; exact absurd rfl h
  · rw [if_neg h1] at h
    by_cases h2 : hi < v
    · rw [if_pos h2] at h; exact absurd rfl h
    · exact ⟨h1, Int32.not_lt.mp h2⟩
theorem inI_row {r : Int32} (h : ¬ inI r (nI 0) (nI 7) = 0) : nrI r = 0 := by
  obtain ⟨h1, h2⟩ := inI_ne h
  unfold nrI
  rw [if_neg (show ¬ r < 0 from h1), if_pos (Int32.lt_of_le_of_lt h2 (by decide))]
  rfl
theorem inI_k {k : Nat} (h : k < 8) : inI (nI k) (nI 0) (nI 7) = nI 1 := inI_N (by omega) (by omega) (by omega)
theorem rng_in (i le : Int32) : rngI i (nI 1) le = inI i (nI 0) (le - nI 1) := by
  unfold rngI inI
  by_cases h : i < 0
  · rw [if_pos h, if_pos (show i < nI 0 from h)]
  · rw [if_neg h, if_neg (show ¬ i < nI 0 from h), if_neg (by decide)]
theorem rng_long {m : Nat} (hm : m ≤ 40) (i n : Int32) (hi : ¬ i < 0) (hn : ¬ n < 0) : (nI m - n < i) ↔ (nI m).toInt64 < i.toInt64 + n.toInt64 := by
  obtain ⟨a, ha, rfl⟩ := nI_of hi
  obtain ⟨b, hb, rfl⟩ := nI_of hn
  rw [Int64.lt_iff_toInt_lt, Int32.lt_iff_toInt_lt, Int64.toInt_add, Int32.toInt_toInt64, Int32.toInt_toInt64, Int32.toInt_toInt64, Int32.toInt_sub, nI_toInt (n := m) (by omega), nI_toInt ha, nI_toInt hb]
  rw [Int.bmod_eq_of_le (by omega) (by omega), Int.bmod_eq_of_le (by omega) (by omega)]
  omega
theorem cpy_b {f : Nat → Int32} {sp dp k : Nat} (hs : 0 < sp) (hd : 0 < dp) : upd (va_cpy f f sp dp k) (dp - 1) (f (sp - 1)) = va_cpy f f (sp - 1) (dp - 1) (k + 1) := by
  funext j
  by_cases h : j = dp - 1
  · subst h
    rw [pk_us, pk_cpy_in (by omega) (by omega), show dp - 1 - (dp - 1) = 0 by omega, Nat.add_zero]
  · rw [pk_un h]
    by_cases h2 : dp ≤ j ∧ j < dp + k
    · rw [pk_cpy_in h2.1 h2.2, pk_cpy_in (by omega) (by omega), show sp + (j - dp) = sp - 1 + (j - (dp - 1)) by omega]
    · rw [pk_cpy_out (by omega), pk_cpy_out (by omega)]
section M3
variable {G : GG} {z : Nat} {σ : AH} {a0 a1 a2 a3 a4 a5 a6 a7 a8 a9 a10 a11 : Nat → Int32} {i0 i1 i2 i3 i4 i5 i6 i7 i8 i9 i10 i11 : Int32}
theorem m_row_bad (r la n : Int32) (h : ¬ nrI r = 0 ∨ la < 0 ∨ nI 2 < la ∨ nI 40 < n) : Ct G yX6_row cX6_row 5 (some .int) 3 0 0 z (mH σ a0 a1 a2 a3 a4 a5 a6 a7 a8 a9 a10 a11 i0 i1 i2 i3 i4 i5 i6 i7 i8 i9 i10 i11) [.ref 171, .int r, .int la, .int n] (some (.int (-1000001))) z (mH σ a0 a1 a2 a3 a4 a5 a6 a7 a8 a9 a10 a11 i0 i1 i2 i3 i4 i5 i6 i7 i8 i9 i10 i11) := by
  refine Ct.ofJ RX6 rfl [some (.ref 171), some (.int r), some (.int la), some (.int n), none] rfl (by decide) (by simp [Value.category]) ?_
  refine j_iload_n dX6_row_0 rfl rfl ?_
  refine j_callS (m_isRow r) dX6_row_1 rfl ms_X6_58 ⟨(Nat.le_of_ble_eq_true rfl), (Nat.le_of_ble_eq_true rfl)⟩ ⟨(Nat.le_of_ble_eq_true rfl), (Nat.le_of_ble_eq_true rfl)⟩ (Nat.le_of_ble_eq_true rfl) ?_
  refine j_if_eq 25 dX6_row_4 (by decide) (fun b4 => ?_) (fun b4 => ?_)
  · refine j_ldc (-1000001) dX6_row_25 kc_X6_64 ?_
    exact j_iret rfl dX6_row_27 rfl rfl (Nat.le_of_ble_eq_true rfl) (Nat.le_of_ble_eq_true rfl)
  · refine j_iload_n dX6_row_7 rfl rfl ?_
    refine j_i2l dX6_row_8 ?_
    refine j_lconst (0) dX6_row_9 rfl ?_
    refine j_ldc2 (2) dX6_row_10 kl_X6_62 ?_
    refine j_callS (m_in3 la (nI 0) (nI 2) rfl rfl) dX6_row_13 rfl ms_X6_54 ⟨(Nat.le_of_ble_eq_true rfl), (Nat.le_of_ble_eq_true rfl)⟩ ⟨(Nat.le_of_ble_eq_true rfl), (Nat.le_of_ble_eq_true rfl)⟩ (Nat.le_of_ble_eq_true rfl) ?_
    refine j_if_eq 25 dX6_row_16 (by decide) (fun b16 => ?_) (fun b16 => ?_)
    · refine j_ldc (-1000001) dX6_row_25 kc_X6_64 ?_
      exact j_iret rfl dX6_row_27 rfl rfl (Nat.le_of_ble_eq_true rfl) (Nat.le_of_ble_eq_true rfl)
    · refine j_iload_n dX6_row_19 rfl rfl ?_
      refine j_bipush (nI 40) dX6_row_20 rfl ?_
      refine j_icmp_le 28 dX6_row_22 (by decide) (fun b22 => ?_) (fun b22 => ?_)
      · exfalso
        rcases h with h | h | h | h
        · exact h (inI_row b4)
        · exact (inI_ne b16).1 h
        · exact absurd (inI_ne b16).2 (Int32.not_le.mpr h)
        · exact absurd b22 (Int32.not_le.mpr h)
      · refine j_ldc (-1000001) dX6_row_25 kc_X6_64 ?_
        exact j_iret rfl dX6_row_27 rfl rfl (Nat.le_of_ble_eq_true rfl) (Nat.le_of_ble_eq_true rfl)
theorem m_row_size {k la : Nat} (n : Int32) (hk : k < 8) (hl : la < 3) (hn : n < 0) : Ct G yX6_row cX6_row 5 (some .int) 3 0 0 z (mH σ a0 a1 a2 a3 a4 a5 a6 a7 a8 a9 a10 a11 i0 i1 i2 i3 i4 i5 i6 i7 i8 i9 i10 i11) [.ref 171, .int (nI k), .int (nI la), .int n] (some (.int (-1000010 - nI 4))) z (mH σ a0 a1 a2 a3 a4 a5 a6 a7 a8 a9 a10 a11 i0 (nI 4) i2 i3 i4 i5 i6 i7 i8 i9 i10 i11) := by
  refine Ct.ofJ RX6 rfl [some (.ref 171), some (.int (nI k)), some (.int (nI la)), some (.int n), none] rfl (by decide) (by simp [Value.category]) ?_
  refine j_iload_n dX6_row_0 rfl rfl ?_
  refine j_callS (m_isRow (nI k)) dX6_row_1 rfl ms_X6_58 ⟨(Nat.le_of_ble_eq_true rfl), (Nat.le_of_ble_eq_true rfl)⟩ ⟨(Nat.le_of_ble_eq_true rfl), (Nat.le_of_ble_eq_true rfl)⟩ (Nat.le_of_ble_eq_true rfl) ?_
  refine j_top (nI 1) (inI_k hk) ?_
  refine j_if_eq 25 dX6_row_4 (by decide) (fun h => absurd h (by decide)) (fun _ => ?_)
  refine j_iload_n dX6_row_7 rfl rfl ?_
  refine j_i2l dX6_row_8 ?_
  refine j_lconst (0) dX6_row_9 rfl ?_
  refine j_ldc2 (2) dX6_row_10 kl_X6_62 ?_
  refine j_callS (m_in3 (nI la) (nI 0) (nI 2) rfl rfl) dX6_row_13 rfl ms_X6_54 ⟨(Nat.le_of_ble_eq_true rfl), (Nat.le_of_ble_eq_true rfl)⟩ ⟨(Nat.le_of_ble_eq_true rfl), (Nat.le_of_ble_eq_true rfl)⟩ (Nat.le_of_ble_eq_true rfl) ?_
  refine j_top (nI 1) (inI_N (by omega) (by omega) (by omega)) ?_
  refine j_if_eq 25 dX6_row_16 (by decide) (fun h => absurd h (by decide)) (fun _ => ?_)
  refine j_iload_n dX6_row_19 rfl rfl ?_
  refine j_bipush (nI 40) dX6_row_20 rfl ?_
  refine j_icmp_le 28 dX6_row_22 (by decide) (fun b22 => ?_) (fun b22 => by exact absurd (Int32.le_of_lt (Int32.lt_trans hn (by decide))) b22)
  refine j_iload_n dX6_row_28 rfl rfl ?_
  refine j_if_ge 38 dX6_row_29 (by decide) (fun b29 => by exact absurd hn (Int32.not_lt.mpr b29)) (fun b29 => ?_)
  refine j_aload_n dX6_row_32 rfl rfl ?_
  refine j_iconst (nI 4) dX6_row_33 rfl ?_
  refine j_callV (m_finds (nI 4)) dX6_row_34 rfl mv_X6_65 mH_o rfl ⟨(Nat.le_of_ble_eq_true rfl), (Nat.le_of_ble_eq_true rfl)⟩ ⟨(Nat.le_of_ble_eq_true rfl), (Nat.le_of_ble_eq_true rfl)⟩ (Nat.le_of_ble_eq_true rfl) ?_
  exact j_iret rfl dX6_row_37 rfl rfl (Nat.le_of_ble_eq_true rfl) (Nat.le_of_ble_eq_true rfl)
theorem m_row_ok {k la m : Nat} (hk : k < 8) (hl : la < 3) (hm : m ≤ 40) : Ct G yX6_row cX6_row 5 (some .int) 3 0 0 z (mH σ a0 a1 a2 a3 a4 a5 a6 a7 a8 a9 a10 a11 i0 i1 i2 i3 i4 i5 i6 i7 i8 i9 i10 i11) [.ref 171, .int (nI k), .int (nI la), .int (nI m)] (some (.int (nI m))) z (mH σ a0 a1 a2 a3 a4 (upd a5 k (nI m)) (upd a6 k (nI la)) (va_cpy (fun _ => nI 0) a7 0 (40 * k) 40) a8 a9 a10 a11 i0 (nI 0) i2 i3 i4 i5 i6 i7 i8 i9 i10 i11) := by
  refine Ct.ofJ RX6 rfl [some (.ref 171), some (.int (nI k)), some (.int (nI la)), some (.int (nI m)), none] rfl (by decide) (by simp [Value.category]) ?_
  refine j_iload_n dX6_row_0 rfl rfl ?_
  refine j_callS (m_isRow (nI k)) dX6_row_1 rfl ms_X6_58 ⟨(Nat.le_of_ble_eq_true rfl), (Nat.le_of_ble_eq_true rfl)⟩ ⟨(Nat.le_of_ble_eq_true rfl), (Nat.le_of_ble_eq_true rfl)⟩ (Nat.le_of_ble_eq_true rfl) ?_
  refine j_top (nI 1) (inI_k hk) ?_
  refine j_if_eq 25 dX6_row_4 (by decide) (fun h => absurd h (by decide)) (fun _ => ?_)
  refine j_iload_n dX6_row_7 rfl rfl ?_
  refine j_i2l dX6_row_8 ?_
  refine j_lconst (0) dX6_row_9 rfl ?_
  refine j_ldc2 (2) dX6_row_10 kl_X6_62 ?_
  refine j_callS (m_in3 (nI la) (nI 0) (nI 2) rfl rfl) dX6_row_13 rfl ms_X6_54 ⟨(Nat.le_of_ble_eq_true rfl), (Nat.le_of_ble_eq_true rfl)⟩ ⟨(Nat.le_of_ble_eq_true rfl), (Nat.le_of_ble_eq_true rfl)⟩ (Nat.le_of_ble_eq_true rfl) ?_
  refine j_top (nI 1) (inI_N (by omega) (by omega) (by omega)) ?_
  refine j_if_eq 25 dX6_row_16 (by decide) (fun h => absurd h (by decide)) (fun _ => ?_)
  refine j_iload_n dX6_row_19 rfl rfl ?_
  refine j_bipush (nI 40) dX6_row_20 rfl ?_
  refine j_icmp_leN 28 dX6_row_22 (by decide) (by omega) (by omega) (fun b22 => ?_) (fun b22 => by exfalso; omega)
  refine j_iload_n dX6_row_28 rfl rfl ?_
  refine j_if_ge 38 dX6_row_29 (by decide) (fun b29 => ?_) (fun b29 => by exact absurd (nI_pos' (by omega)) b29)
  refine j_aload_n dX6_row_38 rfl rfl ?_
  refine j_getf dX6_row_39 6 8 rfl (Nat.le_of_ble_eq_true rfl) fl_X6_26 in_6 mH_o rfl ?_
  refine j_iload_n dX6_row_42 rfl rfl ?_
  refine j_iload_n dX6_row_43 rfl rfl ?_
  refine j_iast dX6_row_44 mH_a5 rfl (by omega) (by decide) _ mH_s5 ?_
  refine j_aload_n dX6_row_45 rfl rfl ?_
  refine j_getf dX6_row_46 6 9 rfl (Nat.le_of_ble_eq_true rfl) fl_X6_29 in_6 mH_o rfl ?_
  refine j_iload_n dX6_row_49 rfl rfl ?_
  refine j_iload_n dX6_row_50 rfl rfl ?_
  refine j_iast dX6_row_51 mH_a6 rfl (by omega) (by decide) _ mH_s6 ?_
  refine j_iconst (nI 0) dX6_row_52 rfl ?_
  refine j_istore dX6_row_53 (Nat.le_of_ble_eq_true rfl) rfl ?_
  suffices H : ∀ (kk i : Nat), i ≤ 40 → 40 < i + kk → J G RX6 cX6_row 5 (some .int) (TQ G 3 0 0 (some (.int (nI m))) z (mH σ a0 a1 a2 a3 a4 (upd a5 k (nI m)) (upd a6 k (nI la)) (va_cpy (fun _ => nI 0) a7 0 (40 * k) 40) a8 a9 a10 a11 i0 (nI 0) i2 i3 i4 i5 i6 i7 i8 i9 i10 i11)) z (mH σ a0 a1 a2 a3 a4 (upd a5 k (nI m)) (upd a6 k (nI la)) (va_cpy (fun _ => nI 0) a7 0 (40 * k) i) a8 a9 a10 a11 i0 i1 i2 i3 i4 i5 i6 i7 i8 i9 i10 i11) 0 0 55 [some (.ref 171), some (.int (nI k)), some (.int (nI la)), some (.int (nI m)), some (.int (nI i))] [] from (by have := H 41 0 (by omega) (by omega); rw [cpy_0] at this; exact this)
  intro kk
  induction kk with
  | zero => intro i h1 h2; exact absurd h2 (by omega)
  | succ kk ih =>
    intro i h1 h2
    refine j_iload dX6_row_55 rfl ?_
    refine j_bipush (nI 40) dX6_row_57 rfl ?_
    refine j_icmp_geN 81 dX6_row_59 (by decide) (by omega) (by omega) (fun b59 => ?_) (fun b59 => ?_)
    · obtain rfl : i = 40 := by omega
      refine j_aload_n dX6_row_81 rfl rfl ?_
      refine j_iload_n dX6_row_82 rfl rfl ?_
      refine j_callV (m_fine (nI m)) dX6_row_83 rfl mv_X6_69 mH_o rfl ⟨(Nat.le_of_ble_eq_true rfl), (Nat.le_of_ble_eq_true rfl)⟩ ⟨(Nat.le_of_ble_eq_true rfl), (Nat.le_of_ble_eq_true rfl)⟩ (Nat.le_of_ble_eq_true rfl) ?_
      exact j_iret rfl dX6_row_86 rfl rfl (Nat.le_of_ble_eq_true rfl) (Nat.le_of_ble_eq_true rfl)
    · refine j_aload_n dX6_row_62 rfl rfl ?_
      refine j_getf dX6_row_63 6 10 rfl (Nat.le_of_ble_eq_true rfl) fl_X6_32 in_6 mH_o rfl ?_
      refine j_bipush (nI 40) dX6_row_66 rfl ?_
      refine j_iload_n dX6_row_68 rfl rfl ?_
      first | refine j_imulN dX6_row_69 ?_ | refine j_imul dX6_row_69 ?_
      refine j_iload dX6_row_70 rfl ?_
      first | refine j_iaddN dX6_row_72 ?_ | refine j_iadd dX6_row_72 ?_
      refine j_iconst (nI 0) dX6_row_73 rfl ?_
      refine j_iast dX6_row_74 mH_a7 rfl (by omega) (by decide) _ (show _ = (mH σ a0 a1 a2 a3 a4 (upd a5 k (nI m)) (upd a6 k (nI la)) (va_cpy (fun _ => nI 0) a7 0 (40 * k) (i + 1)) a8 a9 a10 a11 i0 i1 i2 i3 i4 i5 i6 i7 i8 i9 i10 i11) by rw [← cpy_s]; exact mH_s7) ?_
      first | refine j_iincN dX6_row_75 rfl (Nat.le_of_ble_eq_true rfl) rfl ?_ | refine j_iinc _ dX6_row_75 rfl rfl (Nat.le_of_ble_eq_true rfl) rfl ?_
      refine j_goto 55 dX6_row_78 (by decide) ?_
      exact ih (i + 1) (by omega) (by omega)
theorem m_set_bad (r i v : Int32) (h : ¬ nrI r = 0) : Ct G yX6_set cX6_set 4 (some .int) 3 0 0 z (mH σ a0 a1 a2 a3 a4 a5 a6 a7 a8 a9 a10 a11 i0 i1 i2 i3 i4 i5 i6 i7 i8 i9 i10 i11) [.ref 171, .int r, .int i, .int v] (some (.int (-1000001))) z (mH σ a0 a1 a2 a3 a4 a5 a6 a7 a8 a9 a10 a11 i0 i1 i2 i3 i4 i5 i6 i7 i8 i9 i10 i11) := by
  refine Ct.ofJ RX6 rfl [some (.ref 171), some (.int r), some (.int i), some (.int v)] rfl (by decide) (by simp [Value.category]) ?_
  refine j_iload_n dX6_set_0 rfl rfl ?_
  refine j_callS (m_isRow r) dX6_set_1 rfl ms_X6_58 ⟨(Nat.le_of_ble_eq_true rfl), (Nat.le_of_ble_eq_true rfl)⟩ ⟨(Nat.le_of_ble_eq_true rfl), (Nat.le_of_ble_eq_true rfl)⟩ (Nat.le_of_ble_eq_true rfl) ?_
  refine j_if_ne 10 dX6_set_4 (by decide) (fun b4 => by exact absurd (inI_row b4) h) (fun b4 => ?_)
  refine j_ldc (-1000001) dX6_set_7 kc_X6_64 ?_
  exact j_iret rfl dX6_set_9 rfl rfl (Nat.le_of_ble_eq_true rfl) (Nat.le_of_ble_eq_true rfl)
theorem m_set_null {k : Nat} (i v : Int32) (hk : k < 8) (hl : a5 k = -1) : Ct G yX6_set cX6_set 4 (some .int) 3 0 0 z (mH σ a0 a1 a2 a3 a4 a5 a6 a7 a8 a9 a10 a11 i0 i1 i2 i3 i4 i5 i6 i7 i8 i9 i10 i11) [.ref 171, .int (nI k), .int i, .int v] (some (.int (-1000010 - nI 1))) z (mH σ a0 a1 a2 a3 a4 a5 a6 a7 a8 a9 a10 a11 i0 (nI 1) i2 i3 i4 i5 i6 i7 i8 i9 i10 i11) := by
  refine Ct.ofJ RX6 rfl [some (.ref 171), some (.int (nI k)), some (.int i), some (.int v)] rfl (by decide) (by simp [Value.category]) ?_
  refine j_iload_n dX6_set_0 rfl rfl ?_
  refine j_callS (m_isRow (nI k)) dX6_set_1 rfl ms_X6_58 ⟨(Nat.le_of_ble_eq_true rfl), (Nat.le_of_ble_eq_true rfl)⟩ ⟨(Nat.le_of_ble_eq_true rfl), (Nat.le_of_ble_eq_true rfl)⟩ (Nat.le_of_ble_eq_true rfl) ?_
  refine j_top (nI 1) (inI_k hk) ?_
  refine j_if_ne 10 dX6_set_4 (by decide) (fun _ => ?_) (fun h => absurd h (by decide))
  refine j_aload_n dX6_set_10 rfl rfl ?_
  refine j_getf dX6_set_11 6 8 rfl (Nat.le_of_ble_eq_true rfl) fl_X6_26 in_6 mH_o rfl ?_
  refine j_iload_n dX6_set_14 rfl rfl ?_
  refine j_iald dX6_set_15 mH_a5 rfl (by omega) (by decide) ?_
  refine j_top (-1) hl ?_
  refine j_if_ge 25 dX6_set_16 (by decide) (fun b16 => by exact absurd b16 (by decide)) (fun b16 => ?_)
  refine j_aload_n dX6_set_19 rfl rfl ?_
  refine j_iconst (nI 1) dX6_set_20 rfl ?_
  refine j_callV (m_finds (nI 1)) dX6_set_21 rfl mv_X6_65 mH_o rfl ⟨(Nat.le_of_ble_eq_true rfl), (Nat.le_of_ble_eq_true rfl)⟩ ⟨(Nat.le_of_ble_eq_true rfl), (Nat.le_of_ble_eq_true rfl)⟩ (Nat.le_of_ble_eq_true rfl) ?_
  exact j_iret rfl dX6_set_24 rfl rfl (Nat.le_of_ble_eq_true rfl) (Nat.le_of_ble_eq_true rfl)
theorem m_set_place {k m : Nat} (i v : Int32) (hk : k < 8) (hl : a5 k = nI m) (hm : m ≤ 40) (hr : rngI i (nI 1) (nI m) = nI 0) : Ct G yX6_set cX6_set 4 (some .int) 3 0 0 z (mH σ a0 a1 a2 a3 a4 a5 a6 a7 a8 a9 a10 a11 i0 i1 i2 i3 i4 i5 i6 i7 i8 i9 i10 i11) [.ref 171, .int (nI k), .int i, .int v] (some (.int (-1000010 - nI 2))) z (mH σ a0 a1 a2 a3 a4 a5 a6 a7 a8 a9 a10 a11 i0 (nI 2) i2 i3 i4 i5 i6 i7 i8 i9 i10 i11) := by
  refine Ct.ofJ RX6 rfl [some (.ref 171), some (.int (nI k)), some (.int i), some (.int v)] rfl (by decide) (by simp [Value.category]) ?_
  refine j_iload_n dX6_set_0 rfl rfl ?_
  refine j_callS (m_isRow (nI k)) dX6_set_1 rfl ms_X6_58 ⟨(Nat.le_of_ble_eq_true rfl), (Nat.le_of_ble_eq_true rfl)⟩ ⟨(Nat.le_of_ble_eq_true rfl), (Nat.le_of_ble_eq_true rfl)⟩ (Nat.le_of_ble_eq_true rfl) ?_
  refine j_top (nI 1) (inI_k hk) ?_
  refine j_if_ne 10 dX6_set_4 (by decide) (fun _ => ?_) (fun h => absurd h (by decide))
  refine j_aload_n dX6_set_10 rfl rfl ?_
  refine j_getf dX6_set_11 6 8 rfl (Nat.le_of_ble_eq_true rfl) fl_X6_26 in_6 mH_o rfl ?_
  refine j_iload_n dX6_set_14 rfl rfl ?_
  refine j_iald dX6_set_15 mH_a5 rfl (by omega) (by decide) ?_
  refine j_top (nI m) hl ?_
  refine j_if_ge 25 dX6_set_16 (by decide) (fun b16 => ?_) (fun b16 => by exact absurd (nI_pos' (by omega)) b16)
  refine j_iload_n dX6_set_25 rfl rfl ?_
  refine j_i2l dX6_set_26 ?_
  refine j_lconst (0) dX6_set_27 rfl ?_
  refine j_aload_n dX6_set_28 rfl rfl ?_
  refine j_getf dX6_set_29 6 8 rfl (Nat.le_of_ble_eq_true rfl) fl_X6_26 in_6 mH_o rfl ?_
  refine j_iload_n dX6_set_32 rfl rfl ?_
  refine j_iald dX6_set_33 mH_a5 rfl (by omega) (by decide) ?_
  refine j_top (nI m) hl ?_
  refine j_iconst (nI 1) dX6_set_34 rfl ?_
  refine j_isub dX6_set_35 ?_
  refine j_i2l dX6_set_36 ?_
  refine j_callS (m_in3 i (nI 0) (nI m - nI 1) rfl rfl) dX6_set_37 rfl ms_X6_54 ⟨(Nat.le_of_ble_eq_true rfl), (Nat.le_of_ble_eq_true rfl)⟩ ⟨(Nat.le_of_ble_eq_true rfl), (Nat.le_of_ble_eq_true rfl)⟩ (Nat.le_of_ble_eq_true rfl) ?_
  refine j_top (nI 0) ((rng_in i (nI m)).symm.trans hr) ?_
  refine j_if_ne 49 dX6_set_40 (by decide) (fun h => absurd rfl h) (fun _ => ?_)
  refine j_aload_n dX6_set_43 rfl rfl ?_
  refine j_iconst (nI 2) dX6_set_44 rfl ?_
  refine j_callV (m_finds (nI 2)) dX6_set_45 rfl mv_X6_65 mH_o rfl ⟨(Nat.le_of_ble_eq_true rfl), (Nat.le_of_ble_eq_true rfl)⟩ ⟨(Nat.le_of_ble_eq_true rfl), (Nat.le_of_ble_eq_true rfl)⟩ (Nat.le_of_ble_eq_true rfl) ?_
  exact j_iret rfl dX6_set_48 rfl rfl (Nat.le_of_ble_eq_true rfl) (Nat.le_of_ble_eq_true rfl)
theorem m_set_ok {k m j la : Nat} (v : Int32) (hk : k < 8) (hl : a5 k = nI m) (hm : m ≤ 40) (hla : la < 3) (h6 : a6 k = nI la) (hj : j < m) : Ct G yX6_set cX6_set 4 (some .int) 3 0 0 z (mH σ a0 a1 a2 a3 a4 a5 a6 a7 a8 a9 a10 a11 i0 i1 i2 i3 i4 i5 i6 i7 i8 i9 i10 i11) [.ref 171, .int (nI k), .int (nI j), .int v] (some (.int (putI (nI la) v))) z (mH σ a0 a1 a2 a3 a4 a5 a6 (upd a7 (40 * k + j) (putI (nI la) v)) a8 a9 a10 a11 i0 (nI 0) i2 i3 i4 i5 i6 i7 i8 i9 i10 i11) := by
  refine Ct.ofJ RX6 rfl [some (.ref 171), some (.int (nI k)), some (.int (nI j)), some (.int v)] rfl (by decide) (by simp [Value.category]) ?_
  suffices HH : ∀ x, x = putI (nI la) v → J G RX6 cX6_set 4 (some .int) (TQ G 3 0 0 (some (.int (putI (nI la) v))) z (mH σ a0 a1 a2 a3 a4 a5 a6 (upd a7 (40 * k + j) (putI (nI la) v)) a8 a9 a10 a11 i0 (nI 0) i2 i3 i4 i5 i6 i7 i8 i9 i10 i11)) z (mH σ a0 a1 a2 a3 a4 a5 a6 a7 a8 a9 a10 a11 i0 i1 i2 i3 i4 i5 i6 i7 i8 i9 i10 i11) 0 0 89 [some (.ref 171), some (.int (nI k)), some (.int (nI j)), some (.int v)] [.int x, .int (nI (40 * k + j)), .ref 179] by
    refine j_iload_n dX6_set_0 rfl rfl ?_
    refine j_callS (m_isRow (nI k)) dX6_set_1 rfl ms_X6_58 ⟨(Nat.le_of_ble_eq_true rfl), (Nat.le_of_ble_eq_true rfl)⟩ ⟨(Nat.le_of_ble_eq_true rfl), (Nat.le_of_ble_eq_true rfl)⟩ (Nat.le_of_ble_eq_true rfl) ?_
    refine j_top (nI 1) (inI_k hk) ?_
    refine j_if_ne 10 dX6_set_4 (by decide) (fun _ => ?_) (fun h => absurd h (by decide))
    refine j_aload_n dX6_set_10 rfl rfl ?_
    refine j_getf dX6_set_11 6 8 rfl (Nat.le_of_ble_eq_true rfl) fl_X6_26 in_6 mH_o rfl ?_
    refine j_iload_n dX6_set_14 rfl rfl ?_
    refine j_iald dX6_set_15 mH_a5 rfl (by omega) (by decide) ?_
    refine j_top (nI m) hl ?_
    refine j_if_ge 25 dX6_set_16 (by decide) (fun b16 => ?_) (fun b16 => by exact absurd (nI_pos' (by omega)) b16)
    refine j_iload_n dX6_set_25 rfl rfl ?_
    refine j_i2l dX6_set_26 ?_
    refine j_lconst (0) dX6_set_27 rfl ?_
    refine j_aload_n dX6_set_28 rfl rfl ?_
    refine j_getf dX6_set_29 6 8 rfl (Nat.le_of_ble_eq_true rfl) fl_X6_26 in_6 mH_o rfl ?_
    refine j_iload_n dX6_set_32 rfl rfl ?_
    refine j_iald dX6_set_33 mH_a5 rfl (by omega) (by decide) ?_
    refine j_top (nI m) hl ?_
    refine j_iconst (nI 1) dX6_set_34 rfl ?_
    refine j_isubN dX6_set_35 (by omega) ?_
    refine j_i2l dX6_set_36 ?_
    refine j_callS (m_in3 (nI j) (nI 0) (nI (m - 1)) rfl rfl) dX6_set_37 rfl ms_X6_54 ⟨(Nat.le_of_ble_eq_true rfl), (Nat.le_of_ble_eq_true rfl)⟩ ⟨(Nat.le_of_ble_eq_true rfl), (Nat.le_of_ble_eq_true rfl)⟩ (Nat.le_of_ble_eq_true rfl) ?_
    refine j_top (nI 1) (inI_N (by omega) (by omega) (by omega)) ?_
    refine j_if_ne 49 dX6_set_40 (by decide) (fun _ => ?_) (fun h => absurd h (by decide))
    refine j_aload_n dX6_set_49 rfl rfl ?_
    refine j_getf dX6_set_50 6 10 rfl (Nat.le_of_ble_eq_true rfl) fl_X6_32 in_6 mH_o rfl ?_
    refine j_bipush (nI 40) dX6_set_53 rfl ?_
    refine j_iload_n dX6_set_55 rfl rfl ?_
    first | refine j_imulN dX6_set_56 ?_ | refine j_imul dX6_set_56 ?_
    refine j_iload_n dX6_set_57 rfl rfl ?_
    first | refine j_iaddN dX6_set_58 ?_ | refine j_iadd dX6_set_58 ?_
    refine j_aload_n dX6_set_59 rfl rfl ?_
    refine j_getf dX6_set_60 6 9 rfl (Nat.le_of_ble_eq_true rfl) fl_X6_29 in_6 mH_o rfl ?_
    refine j_iload_n dX6_set_63 rfl rfl ?_
    refine j_iald dX6_set_64 mH_a6 rfl (by omega) (by decide) ?_
    refine j_top (nI la) h6 ?_
    refine j_if_ne 73 dX6_set_65 (by decide) (fun b65 => ?_) (fun b65 => ?_)
    · refine j_aload_n dX6_set_73 rfl rfl ?_
      refine j_getf dX6_set_74 6 9 rfl (Nat.le_of_ble_eq_true rfl) fl_X6_29 in_6 mH_o rfl ?_
      refine j_iload_n dX6_set_77 rfl rfl ?_
      refine j_iald dX6_set_78 mH_a6 rfl (by omega) (by decide) ?_
      refine j_top (nI la) h6 ?_
      refine j_iconst (nI 1) dX6_set_79 rfl ?_
      refine j_icmp_ne 88 dX6_set_80 (by decide) (fun b80 => ?_) (fun b80 => ?_)
      · refine j_iload_n dX6_set_88 rfl rfl ?_
        exact HH _ (by unfold putI; first | rw [if_pos b65] | rw [if_neg b65, if_pos b80] | rw [if_neg b65, if_neg b80] | done)
      · refine j_iload_n dX6_set_83 rfl rfl ?_
        refine j_i2s dX6_set_84 ?_
        refine j_goto 89 dX6_set_85 (by decide) ?_
        exact HH _ (by unfold putI; first | rw [if_pos b65] | rw [if_neg b65, if_pos b80] | rw [if_neg b65, if_neg b80] | done)
    · refine j_iload_n dX6_set_68 rfl rfl ?_
      refine j_i2b dX6_set_69 ?_
      refine j_goto 89 dX6_set_70 (by decide) ?_
      exact HH _ (by unfold putI; first | rw [if_pos b65] | rw [if_neg b65, if_pos b80] | rw [if_neg b65, if_neg b80] | done)
  intro x hx
  subst hx
  refine j_iast dX6_set_89 mH_a7 rfl (by omega) (by decide) _ mH_s7 ?_
  refine j_aload_n dX6_set_90 rfl rfl ?_
  refine j_aload_n dX6_set_91 rfl rfl ?_
  refine j_getf dX6_set_92 6 10 rfl (Nat.le_of_ble_eq_true rfl) fl_X6_32 in_6 mH_o rfl ?_
  refine j_bipush (nI 40) dX6_set_95 rfl ?_
  refine j_iload_n dX6_set_97 rfl rfl ?_
  first | refine j_imulN dX6_set_98 ?_ | refine j_imul dX6_set_98 ?_
  refine j_iload_n dX6_set_99 rfl rfl ?_
  first | refine j_iaddN dX6_set_100 ?_ | refine j_iadd dX6_set_100 ?_
  refine j_iald dX6_set_101 mH_a7 rfl (by omega) (by decide) ?_
  refine j_top (putI (nI la) v) pk_us ?_
  refine j_callV (m_fine _) dX6_set_102 rfl mv_X6_69 mH_o rfl ⟨(Nat.le_of_ble_eq_true rfl), (Nat.le_of_ble_eq_true rfl)⟩ ⟨(Nat.le_of_ble_eq_true rfl), (Nat.le_of_ble_eq_true rfl)⟩ (Nat.le_of_ble_eq_true rfl) ?_
  exact j_iret rfl dX6_set_105 rfl rfl (Nat.le_of_ble_eq_true rfl) (Nat.le_of_ble_eq_true rfl)
theorem m_drop_bad (r : Int32) (h : ¬ nrI r = 0) : Ct G yX6_drop cX6_drop 3 (some .int) 3 0 0 z (mH σ a0 a1 a2 a3 a4 a5 a6 a7 a8 a9 a10 a11 i0 i1 i2 i3 i4 i5 i6 i7 i8 i9 i10 i11) [.ref 171, .int r] (some (.int (-1000001))) z (mH σ a0 a1 a2 a3 a4 a5 a6 a7 a8 a9 a10 a11 i0 i1 i2 i3 i4 i5 i6 i7 i8 i9 i10 i11) := by
  refine Ct.ofJ RX6 rfl [some (.ref 171), some (.int r), none] rfl (by decide) (by simp [Value.category]) ?_
  refine j_iload_n dX6_drop_0 rfl rfl ?_
  refine j_callS (m_isRow r) dX6_drop_1 rfl ms_X6_58 ⟨(Nat.le_of_ble_eq_true rfl), (Nat.le_of_ble_eq_true rfl)⟩ ⟨(Nat.le_of_ble_eq_true rfl), (Nat.le_of_ble_eq_true rfl)⟩ (Nat.le_of_ble_eq_true rfl) ?_
  refine j_if_ne 10 dX6_drop_4 (by decide) (fun b4 => by exact absurd (inI_row b4) h) (fun b4 => ?_)
  refine j_ldc (-1000001) dX6_drop_7 kc_X6_64 ?_
  exact j_iret rfl dX6_drop_9 rfl rfl (Nat.le_of_ble_eq_true rfl) (Nat.le_of_ble_eq_true rfl)
theorem m_drop_null {k : Nat} (hk : k < 8) (hl : a5 k = -1) : Ct G yX6_drop cX6_drop 3 (some .int) 3 0 0 z (mH σ a0 a1 a2 a3 a4 a5 a6 a7 a8 a9 a10 a11 i0 i1 i2 i3 i4 i5 i6 i7 i8 i9 i10 i11) [.ref 171, .int (nI k)] (some (.int (-1000010 - nI 1))) z (mH σ a0 a1 a2 a3 a4 a5 a6 a7 a8 a9 a10 a11 i0 (nI 1) i2 i3 i4 i5 i6 i7 i8 i9 i10 i11) := by
  refine Ct.ofJ RX6 rfl [some (.ref 171), some (.int (nI k)), none] rfl (by decide) (by simp [Value.category]) ?_
  refine j_iload_n dX6_drop_0 rfl rfl ?_
  refine j_callS (m_isRow (nI k)) dX6_drop_1 rfl ms_X6_58 ⟨(Nat.le_of_ble_eq_true rfl), (Nat.le_of_ble_eq_true rfl)⟩ ⟨(Nat.le_of_ble_eq_true rfl), (Nat.le_of_ble_eq_true rfl)⟩ (Nat.le_of_ble_eq_true rfl) ?_
  refine j_top (nI 1) (inI_k hk) ?_
  refine j_if_ne 10 dX6_drop_4 (by decide) (fun _ => ?_) (fun h => absurd h (by decide))
  refine j_aload_n dX6_drop_10 rfl rfl ?_
  refine j_getf dX6_drop_11 6 8 rfl (Nat.le_of_ble_eq_true rfl) fl_X6_26 in_6 mH_o rfl ?_
  refine j_iload_n dX6_drop_14 rfl rfl ?_
  refine j_iald dX6_drop_15 mH_a5 rfl (by omega) (by decide) ?_
  refine j_top (-1) hl ?_
  refine j_if_ge 25 dX6_drop_16 (by decide) (fun b16 => by exact absurd b16 (by decide)) (fun b16 => ?_)
  refine j_aload_n dX6_drop_19 rfl rfl ?_
  refine j_iconst (nI 1) dX6_drop_20 rfl ?_
  refine j_callV (m_finds (nI 1)) dX6_drop_21 rfl mv_X6_65 mH_o rfl ⟨(Nat.le_of_ble_eq_true rfl), (Nat.le_of_ble_eq_true rfl)⟩ ⟨(Nat.le_of_ble_eq_true rfl), (Nat.le_of_ble_eq_true rfl)⟩ (Nat.le_of_ble_eq_true rfl) ?_
  exact j_iret rfl dX6_drop_24 rfl rfl (Nat.le_of_ble_eq_true rfl) (Nat.le_of_ble_eq_true rfl)
theorem m_drop_ok {k m : Nat} (hk : k < 8) (hl : a5 k = nI m) (hm : m ≤ 40) : Ct G yX6_drop cX6_drop 3 (some .int) 3 0 0 z (mH σ a0 a1 a2 a3 a4 a5 a6 a7 a8 a9 a10 a11 i0 i1 i2 i3 i4 i5 i6 i7 i8 i9 i10 i11) [.ref 171, .int (nI k)] (some (.int (nI m))) z (mH σ a0 a1 a2 a3 a4 (upd a5 k (-1)) a6 a7 a8 a9 a10 a11 i0 (nI 0) i2 i3 i4 i5 i6 i7 i8 i9 i10 i11) := by
  refine Ct.ofJ RX6 rfl [some (.ref 171), some (.int (nI k)), none] rfl (by decide) (by simp [Value.category]) ?_
  refine j_iload_n dX6_drop_0 rfl rfl ?_
  refine j_callS (m_isRow (nI k)) dX6_drop_1 rfl ms_X6_58 ⟨(Nat.le_of_ble_eq_true rfl), (Nat.le_of_ble_eq_true rfl)⟩ ⟨(Nat.le_of_ble_eq_true rfl), (Nat.le_of_ble_eq_true rfl)⟩ (Nat.le_of_ble_eq_true rfl) ?_
  refine j_top (nI 1) (inI_k hk) ?_
  refine j_if_ne 10 dX6_drop_4 (by decide) (fun _ => ?_) (fun h => absurd h (by decide))
  refine j_aload_n dX6_drop_10 rfl rfl ?_
  refine j_getf dX6_drop_11 6 8 rfl (Nat.le_of_ble_eq_true rfl) fl_X6_26 in_6 mH_o rfl ?_
  refine j_iload_n dX6_drop_14 rfl rfl ?_
  refine j_iald dX6_drop_15 mH_a5 rfl (by omega) (by decide) ?_
  refine j_top (nI m) hl ?_
  refine j_if_ge 25 dX6_drop_16 (by decide) (fun b16 => ?_) (fun b16 => by exact absurd (nI_pos' (by omega)) b16)
  refine j_aload_n dX6_drop_25 rfl rfl ?_
  refine j_getf dX6_drop_26 6 8 rfl (Nat.le_of_ble_eq_true rfl) fl_X6_26 in_6 mH_o rfl ?_
  refine j_iload_n dX6_drop_29 rfl rfl ?_
  refine j_iald dX6_drop_30 mH_a5 rfl (by omega) (by decide) ?_
  refine j_top (nI m) hl ?_
  refine j_istore_n dX6_drop_31 rfl (Nat.le_of_ble_eq_true rfl) rfl ?_
  refine j_aload_n dX6_drop_32 rfl rfl ?_
  refine j_getf dX6_drop_33 6 8 rfl (Nat.le_of_ble_eq_true rfl) fl_X6_26 in_6 mH_o rfl ?_
  refine j_iload_n dX6_drop_36 rfl rfl ?_
  refine j_iconst (-1) dX6_drop_37 rfl ?_
  refine j_iast dX6_drop_38 mH_a5 rfl (by omega) (by decide) _ mH_s5 ?_
  refine j_aload_n dX6_drop_39 rfl rfl ?_
  refine j_iload_n dX6_drop_40 rfl rfl ?_
  refine j_callV (m_fine (nI m)) dX6_drop_41 rfl mv_X6_69 mH_o rfl ⟨(Nat.le_of_ble_eq_true rfl), (Nat.le_of_ble_eq_true rfl)⟩ ⟨(Nat.le_of_ble_eq_true rfl), (Nat.le_of_ble_eq_true rfl)⟩ (Nat.le_of_ble_eq_true rfl) ?_
  exact j_iret rfl dX6_drop_44 rfl rfl (Nat.le_of_ble_eq_true rfl) (Nat.le_of_ble_eq_true rfl)
theorem m_copy_bad (a i b j n : Int32) (h : ¬ nrI a = 0 ∨ ¬ nrI b = 0) : Ct G yX6_copy cX6_copy 9 (some .int) 3 0 0 z (mH σ a0 a1 a2 a3 a4 a5 a6 a7 a8 a9 a10 a11 i0 i1 i2 i3 i4 i5 i6 i7 i8 i9 i10 i11) [.ref 171, .int a, .int i, .int b, .int j, .int n] (some (.int (-1000001))) z (mH σ a0 a1 a2 a3 a4 a5 a6 a7 a8 a9 a10 a11 i0 i1 i2 i3 i4 i5 i6 i7 i8 i9 i10 i11) := by
  refine Ct.ofJ RX6 rfl [some (.ref 171), some (.int a), some (.int i), some (.int b), some (.int j), some (.int n), none, none, none] rfl (by decide) (by simp [Value.category]) ?_
  refine j_iload_n dX6_copy_0 rfl rfl ?_
  refine j_callS (m_isRow a) dX6_copy_1 rfl ms_X6_58 ⟨(Nat.le_of_ble_eq_true rfl), (Nat.le_of_ble_eq_true rfl)⟩ ⟨(Nat.le_of_ble_eq_true rfl), (Nat.le_of_ble_eq_true rfl)⟩ (Nat.le_of_ble_eq_true rfl) ?_
  refine j_if_eq 14 dX6_copy_4 (by decide) (fun b4 => ?_) (fun b4 => ?_)
  · refine j_ldc (-1000001) dX6_copy_14 kc_X6_64 ?_
    exact j_iret rfl dX6_copy_16 rfl rfl (Nat.le_of_ble_eq_true rfl) (Nat.le_of_ble_eq_true rfl)
  · refine j_iload_n dX6_copy_7 rfl rfl ?_
    refine j_callS (m_isRow b) dX6_copy_8 rfl ms_X6_58 ⟨(Nat.le_of_ble_eq_true rfl), (Nat.le_of_ble_eq_true rfl)⟩ ⟨(Nat.le_of_ble_eq_true rfl), (Nat.le_of_ble_eq_true rfl)⟩ (Nat.le_of_ble_eq_true rfl) ?_
    refine j_if_ne 17 dX6_copy_11 (by decide) (fun b11 => ?_) (fun b11 => ?_)
    · exact absurd h (fun q => q.elim (fun w => w (inI_row b4)) (fun w => w (inI_row b11)))
    · refine j_ldc (-1000001) dX6_copy_14 kc_X6_64 ?_
      exact j_iret rfl dX6_copy_16 rfl rfl (Nat.le_of_ble_eq_true rfl) (Nat.le_of_ble_eq_true rfl)
theorem m_copy_null {a b : Nat} (i j n : Int32) (ha : a < 8) (hb : b < 8) (h : a5 a = -1 ∨ a5 b = -1) : Ct G yX6_copy cX6_copy 9 (some .int) 3 0 0 z (mH σ a0 a1 a2 a3 a4 a5 a6 a7 a8 a9 a10 a11 i0 i1 i2 i3 i4 i5 i6 i7 i8 i9 i10 i11) [.ref 171, .int (nI a), .int i, .int (nI b), .int j, .int n] (some (.int (-1000010 - nI 1))) z (mH σ a0 a1 a2 a3 a4 a5 a6 a7 a8 a9 a10 a11 i0 (nI 1) i2 i3 i4 i5 i6 i7 i8 i9 i10 i11) := by
  refine Ct.ofJ RX6 rfl [some (.ref 171), some (.int (nI a)), some (.int i), some (.int (nI b)), some (.int j), some (.int n), none, none, none] rfl (by decide) (by simp [Value.category]) ?_
  refine j_iload_n dX6_copy_0 rfl rfl ?_
  refine j_callS (m_isRow (nI a)) dX6_copy_1 rfl ms_X6_58 ⟨(Nat.le_of_ble_eq_true rfl), (Nat.le_of_ble_eq_true rfl)⟩ ⟨(Nat.le_of_ble_eq_true rfl), (Nat.le_of_ble_eq_true rfl)⟩ (Nat.le_of_ble_eq_true rfl) ?_
  refine j_top (nI 1) (inI_k ha) ?_
  refine j_if_eq 14 dX6_copy_4 (by decide) (fun h => absurd h (by decide)) (fun _ => ?_)
  refine j_iload_n dX6_copy_7 rfl rfl ?_
  refine j_callS (m_isRow (nI b)) dX6_copy_8 rfl ms_X6_58 ⟨(Nat.le_of_ble_eq_true rfl), (Nat.le_of_ble_eq_true rfl)⟩ ⟨(Nat.le_of_ble_eq_true rfl), (Nat.le_of_ble_eq_true rfl)⟩ (Nat.le_of_ble_eq_true rfl) ?_
  refine j_top (nI 1) (inI_k hb) ?_
  refine j_if_ne 17 dX6_copy_11 (by decide) (fun _ => ?_) (fun h => absurd h (by decide))
  refine j_aload_n dX6_copy_17 rfl rfl ?_
  refine j_getf dX6_copy_18 6 8 rfl (Nat.le_of_ble_eq_true rfl) fl_X6_26 in_6 mH_o rfl ?_
  refine j_iload_n dX6_copy_21 rfl rfl ?_
  refine j_iald dX6_copy_22 mH_a5 rfl (by omega) (by decide) ?_
  refine j_if_lt 35 dX6_copy_23 (by decide) (fun b23 => ?_) (fun b23 => ?_)
  · refine j_aload_n dX6_copy_35 rfl rfl ?_
    refine j_iconst (nI 1) dX6_copy_36 rfl ?_
    refine j_callV (m_finds (nI 1)) dX6_copy_37 rfl mv_X6_65 mH_o rfl ⟨(Nat.le_of_ble_eq_true rfl), (Nat.le_of_ble_eq_true rfl)⟩ ⟨(Nat.le_of_ble_eq_true rfl), (Nat.le_of_ble_eq_true rfl)⟩ (Nat.le_of_ble_eq_true rfl) ?_
    exact j_iret rfl dX6_copy_40 rfl rfl (Nat.le_of_ble_eq_true rfl) (Nat.le_of_ble_eq_true rfl)
  · refine j_aload_n dX6_copy_26 rfl rfl ?_
    refine j_getf dX6_copy_27 6 8 rfl (Nat.le_of_ble_eq_true rfl) fl_X6_26 in_6 mH_o rfl ?_
    refine j_iload_n dX6_copy_30 rfl rfl ?_
    refine j_iald dX6_copy_31 mH_a5 rfl (by omega) (by decide) ?_
    refine j_if_ge 41 dX6_copy_32 (by decide) (fun b32 => ?_) (fun b32 => ?_)
    · exact absurd h (fun q => q.elim (fun w => b23 (by rw [w]; decide)) (fun w => absurd b32 (by rw [w]; decide)))
    · refine j_aload_n dX6_copy_35 rfl rfl ?_
      refine j_iconst (nI 1) dX6_copy_36 rfl ?_
      refine j_callV (m_finds (nI 1)) dX6_copy_37 rfl mv_X6_65 mH_o rfl ⟨(Nat.le_of_ble_eq_true rfl), (Nat.le_of_ble_eq_true rfl)⟩ ⟨(Nat.le_of_ble_eq_true rfl), (Nat.le_of_ble_eq_true rfl)⟩ (Nat.le_of_ble_eq_true rfl) ?_
      exact j_iret rfl dX6_copy_40 rfl rfl (Nat.le_of_ble_eq_true rfl) (Nat.le_of_ble_eq_true rfl)
theorem m_copy_store {a b m m2 : Nat} (i j n : Int32) (ha : a < 8) (hb : b < 8) (h1 : a5 a = nI m) (h2 : a5 b = nI m2) (hm : m ≤ 40) (hm2 : m2 ≤ 40) (h : ¬ a6 a = a6 b) : Ct G yX6_copy cX6_copy 9 (some .int) 3 0 0 z (mH σ a0 a1 a2 a3 a4 a5 a6 a7 a8 a9 a10 a11 i0 i1 i2 i3 i4 i5 i6 i7 i8 i9 i10 i11) [.ref 171, .int (nI a), .int i, .int (nI b), .int j, .int n] (some (.int (-1000010 - nI 5))) z (mH σ a0 a1 a2 a3 a4 a5 a6 a7 a8 a9 a10 a11 i0 (nI 5) i2 i3 i4 i5 i6 i7 i8 i9 i10 i11) := by
  refine Ct.ofJ RX6 rfl [some (.ref 171), some (.int (nI a)), some (.int i), some (.int (nI b)), some (.int j), some (.int n), none, none, none] rfl (by decide) (by simp [Value.category]) ?_
  refine j_iload_n dX6_copy_0 rfl rfl ?_
  refine j_callS (m_isRow (nI a)) dX6_copy_1 rfl ms_X6_58 ⟨(Nat.le_of_ble_eq_true rfl), (Nat.le_of_ble_eq_true rfl)⟩ ⟨(Nat.le_of_ble_eq_true rfl), (Nat.le_of_ble_eq_true rfl)⟩ (Nat.le_of_ble_eq_true rfl) ?_
  refine j_top (nI 1) (inI_k ha) ?_
  refine j_if_eq 14 dX6_copy_4 (by decide) (fun h => absurd h (by decide)) (fun _ => ?_)
  refine j_iload_n dX6_copy_7 rfl rfl ?_
  refine j_callS (m_isRow (nI b)) dX6_copy_8 rfl ms_X6_58 ⟨(Nat.le_of_ble_eq_true rfl), (Nat.le_of_ble_eq_true rfl)⟩ ⟨(Nat.le_of_ble_eq_true rfl), (Nat.le_of_ble_eq_true rfl)⟩ (Nat.le_of_ble_eq_true rfl) ?_
  refine j_top (nI 1) (inI_k hb) ?_
  refine j_if_ne 17 dX6_copy_11 (by decide) (fun _ => ?_) (fun h => absurd h (by decide))
  refine j_aload_n dX6_copy_17 rfl rfl ?_
  refine j_getf dX6_copy_18 6 8 rfl (Nat.le_of_ble_eq_true rfl) fl_X6_26 in_6 mH_o rfl ?_
  refine j_iload_n dX6_copy_21 rfl rfl ?_
  refine j_iald dX6_copy_22 mH_a5 rfl (by omega) (by decide) ?_
  refine j_top (nI m) h1 ?_
  refine j_if_lt 35 dX6_copy_23 (by decide) (fun b23 => by exact absurd b23 (nI_pos (by omega))) (fun b23 => ?_)
  refine j_aload_n dX6_copy_26 rfl rfl ?_
  refine j_getf dX6_copy_27 6 8 rfl (Nat.le_of_ble_eq_true rfl) fl_X6_26 in_6 mH_o rfl ?_
  refine j_iload_n dX6_copy_30 rfl rfl ?_
  refine j_iald dX6_copy_31 mH_a5 rfl (by omega) (by decide) ?_
  refine j_top (nI m2) h2 ?_
  refine j_if_ge 41 dX6_copy_32 (by decide) (fun b32 => ?_) (fun b32 => by exact absurd (nI_pos' (by omega)) b32)
  refine j_aload_n dX6_copy_41 rfl rfl ?_
  refine j_getf dX6_copy_42 6 9 rfl (Nat.le_of_ble_eq_true rfl) fl_X6_29 in_6 mH_o rfl ?_
  refine j_iload_n dX6_copy_45 rfl rfl ?_
  refine j_iald dX6_copy_46 mH_a6 rfl (by omega) (by decide) ?_
  refine j_aload_n dX6_copy_47 rfl rfl ?_
  refine j_getf dX6_copy_48 6 9 rfl (Nat.le_of_ble_eq_true rfl) fl_X6_29 in_6 mH_o rfl ?_
  refine j_iload_n dX6_copy_51 rfl rfl ?_
  refine j_iald dX6_copy_52 mH_a6 rfl (by omega) (by decide) ?_
  refine j_icmp_eq 62 dX6_copy_53 (by decide) (fun b53 => by exact absurd b53 h) (fun b53 => ?_)
  refine j_aload_n dX6_copy_56 rfl rfl ?_
  refine j_iconst (nI 5) dX6_copy_57 rfl ?_
  refine j_callV (m_finds (nI 5)) dX6_copy_58 rfl mv_X6_65 mH_o rfl ⟨(Nat.le_of_ble_eq_true rfl), (Nat.le_of_ble_eq_true rfl)⟩ ⟨(Nat.le_of_ble_eq_true rfl), (Nat.le_of_ble_eq_true rfl)⟩ (Nat.le_of_ble_eq_true rfl) ?_
  exact j_iret rfl dX6_copy_61 rfl rfl (Nat.le_of_ble_eq_true rfl) (Nat.le_of_ble_eq_true rfl)
theorem m_copy_place {a b m m2 : Nat} (i j n : Int32) (ha : a < 8) (hb : b < 8) (h1 : a5 a = nI m) (h2 : a5 b = nI m2) (hm : m ≤ 40) (hm2 : m2 ≤ 40) (h : a6 a = a6 b) (hr : rngI i n (nI m) = nI 0 ∨ rngI j n (nI m2) = nI 0) : Ct G yX6_copy cX6_copy 9 (some .int) 3 0 0 z (mH σ a0 a1 a2 a3 a4 a5 a6 a7 a8 a9 a10 a11 i0 i1 i2 i3 i4 i5 i6 i7 i8 i9 i10 i11) [.ref 171, .int (nI a), .int i, .int (nI b), .int j, .int n] (some (.int (-1000010 - nI 2))) z (mH σ a0 a1 a2 a3 a4 a5 a6 a7 a8 a9 a10 a11 i0 (nI 2) i2 i3 i4 i5 i6 i7 i8 i9 i10 i11) := by
  refine Ct.ofJ RX6 rfl [some (.ref 171), some (.int (nI a)), some (.int i), some (.int (nI b)), some (.int j), some (.int n), none, none, none] rfl (by decide) (by simp [Value.category]) ?_
  refine j_iload_n dX6_copy_0 rfl rfl ?_
  refine j_callS (m_isRow (nI a)) dX6_copy_1 rfl ms_X6_58 ⟨(Nat.le_of_ble_eq_true rfl), (Nat.le_of_ble_eq_true rfl)⟩ ⟨(Nat.le_of_ble_eq_true rfl), (Nat.le_of_ble_eq_true rfl)⟩ (Nat.le_of_ble_eq_true rfl) ?_
  refine j_top (nI 1) (inI_k ha) ?_
  refine j_if_eq 14 dX6_copy_4 (by decide) (fun h => absurd h (by decide)) (fun _ => ?_)
  refine j_iload_n dX6_copy_7 rfl rfl ?_
  refine j_callS (m_isRow (nI b)) dX6_copy_8 rfl ms_X6_58 ⟨(Nat.le_of_ble_eq_true rfl), (Nat.le_of_ble_eq_true rfl)⟩ ⟨(Nat.le_of_ble_eq_true rfl), (Nat.le_of_ble_eq_true rfl)⟩ (Nat.le_of_ble_eq_true rfl) ?_
  refine j_top (nI 1) (inI_k hb) ?_
  refine j_if_ne 17 dX6_copy_11 (by decide) (fun _ => ?_) (fun h => absurd h (by decide))
  refine j_aload_n dX6_copy_17 rfl rfl ?_
  refine j_getf dX6_copy_18 6 8 rfl (Nat.le_of_ble_eq_true rfl) fl_X6_26 in_6 mH_o rfl ?_
  refine j_iload_n dX6_copy_21 rfl rfl ?_
  refine j_iald dX6_copy_22 mH_a5 rfl (by omega) (by decide) ?_
  refine j_top (nI m) h1 ?_
  refine j_if_lt 35 dX6_copy_23 (by decide) (fun b23 => by exact absurd b23 (nI_pos (by omega))) (fun b23 => ?_)
  refine j_aload_n dX6_copy_26 rfl rfl ?_
  refine j_getf dX6_copy_27 6 8 rfl (Nat.le_of_ble_eq_true rfl) fl_X6_26 in_6 mH_o rfl ?_
  refine j_iload_n dX6_copy_30 rfl rfl ?_
  refine j_iald dX6_copy_31 mH_a5 rfl (by omega) (by decide) ?_
  refine j_top (nI m2) h2 ?_
  refine j_if_ge 41 dX6_copy_32 (by decide) (fun b32 => ?_) (fun b32 => by exact absurd (nI_pos' (by omega)) b32)
  refine j_aload_n dX6_copy_41 rfl rfl ?_
  refine j_getf dX6_copy_42 6 9 rfl (Nat.le_of_ble_eq_true rfl) fl_X6_29 in_6 mH_o rfl ?_
  refine j_iload_n dX6_copy_45 rfl rfl ?_
  refine j_iald dX6_copy_46 mH_a6 rfl (by omega) (by decide) ?_
  refine j_aload_n dX6_copy_47 rfl rfl ?_
  refine j_getf dX6_copy_48 6 9 rfl (Nat.le_of_ble_eq_true rfl) fl_X6_29 in_6 mH_o rfl ?_
  refine j_iload_n dX6_copy_51 rfl rfl ?_
  refine j_iald dX6_copy_52 mH_a6 rfl (by omega) (by decide) ?_
  refine j_icmp_eq 62 dX6_copy_53 (by decide) (fun b53 => ?_) (fun b53 => by exact absurd h b53)
  refine j_iload_n dX6_copy_62 rfl rfl ?_
  refine j_if_lt 111 dX6_copy_63 (by decide) (fun b63 => ?_) (fun b63 => ?_)
  · refine j_aload_n dX6_copy_111 rfl rfl ?_
    refine j_iconst (nI 2) dX6_copy_112 rfl ?_
    refine j_callV (m_finds (nI 2)) dX6_copy_113 rfl mv_X6_65 mH_o rfl ⟨(Nat.le_of_ble_eq_true rfl), (Nat.le_of_ble_eq_true rfl)⟩ ⟨(Nat.le_of_ble_eq_true rfl), (Nat.le_of_ble_eq_true rfl)⟩ (Nat.le_of_ble_eq_true rfl) ?_
    exact j_iret rfl dX6_copy_116 rfl rfl (Nat.le_of_ble_eq_true rfl) (Nat.le_of_ble_eq_true rfl)
  · refine j_iload dX6_copy_66 rfl ?_
    refine j_if_lt 111 dX6_copy_68 (by decide) (fun b68 => ?_) (fun b68 => ?_)
    · refine j_aload_n dX6_copy_111 rfl rfl ?_
      refine j_iconst (nI 2) dX6_copy_112 rfl ?_
      refine j_callV (m_finds (nI 2)) dX6_copy_113 rfl mv_X6_65 mH_o rfl ⟨(Nat.le_of_ble_eq_true rfl), (Nat.le_of_ble_eq_true rfl)⟩ ⟨(Nat.le_of_ble_eq_true rfl), (Nat.le_of_ble_eq_true rfl)⟩ (Nat.le_of_ble_eq_true rfl) ?_
      exact j_iret rfl dX6_copy_116 rfl rfl (Nat.le_of_ble_eq_true rfl) (Nat.le_of_ble_eq_true rfl)
    · refine j_iload dX6_copy_71 rfl ?_
      refine j_if_lt 111 dX6_copy_73 (by decide) (fun b73 => ?_) (fun b73 => ?_)
      · refine j_aload_n dX6_copy_111 rfl rfl ?_
        refine j_iconst (nI 2) dX6_copy_112 rfl ?_
        refine j_callV (m_finds (nI 2)) dX6_copy_113 rfl mv_X6_65 mH_o rfl ⟨(Nat.le_of_ble_eq_true rfl), (Nat.le_of_ble_eq_true rfl)⟩ ⟨(Nat.le_of_ble_eq_true rfl), (Nat.le_of_ble_eq_true rfl)⟩ (Nat.le_of_ble_eq_true rfl) ?_
        exact j_iret rfl dX6_copy_116 rfl rfl (Nat.le_of_ble_eq_true rfl) (Nat.le_of_ble_eq_true rfl)
      · refine j_iload_n dX6_copy_76 rfl rfl ?_
        refine j_i2l dX6_copy_77 ?_
        refine j_iload dX6_copy_78 rfl ?_
        refine j_i2l dX6_copy_80 ?_
        refine j_ladd dX6_copy_81 ?_
        refine j_aload_n dX6_copy_82 rfl rfl ?_
        refine j_getf dX6_copy_83 6 8 rfl (Nat.le_of_ble_eq_true rfl) fl_X6_26 in_6 mH_o rfl ?_
        refine j_iload_n dX6_copy_86 rfl rfl ?_
        refine j_iald dX6_copy_87 mH_a5 rfl (by omega) (by decide) ?_
        refine j_top (nI m) h1 ?_
        refine j_i2l dX6_copy_88 ?_
        refine j_lcmp dX6_copy_89 ?_
        refine j_if_gt 111 dX6_copy_90 (by decide) (fun b90 => ?_) (fun b90 => ?_)
        · refine j_aload_n dX6_copy_111 rfl rfl ?_
          refine j_iconst (nI 2) dX6_copy_112 rfl ?_
          refine j_callV (m_finds (nI 2)) dX6_copy_113 rfl mv_X6_65 mH_o rfl ⟨(Nat.le_of_ble_eq_true rfl), (Nat.le_of_ble_eq_true rfl)⟩ ⟨(Nat.le_of_ble_eq_true rfl), (Nat.le_of_ble_eq_true rfl)⟩ (Nat.le_of_ble_eq_true rfl) ?_
          exact j_iret rfl dX6_copy_116 rfl rfl (Nat.le_of_ble_eq_true rfl) (Nat.le_of_ble_eq_true rfl)
        · refine j_iload dX6_copy_93 rfl ?_
          refine j_i2l dX6_copy_95 ?_
          refine j_iload dX6_copy_96 rfl ?_
          refine j_i2l dX6_copy_98 ?_
          refine j_ladd dX6_copy_99 ?_
          refine j_aload_n dX6_copy_100 rfl rfl ?_
          refine j_getf dX6_copy_101 6 8 rfl (Nat.le_of_ble_eq_true rfl) fl_X6_26 in_6 mH_o rfl ?_
          refine j_iload_n dX6_copy_104 rfl rfl ?_
          refine j_iald dX6_copy_105 mH_a5 rfl (by omega) (by decide) ?_
          refine j_top (nI m2) h2 ?_
          refine j_i2l dX6_copy_106 ?_
          refine j_lcmp dX6_copy_107 ?_
          refine j_if_le 117 dX6_copy_108 (by decide) (fun b108 => ?_) (fun b108 => ?_)
          · exfalso
            rcases hr with hr | hr
            · unfold rngI at hr
              rw [if_neg b63, if_neg b73, if_neg (fun q => b90 ((lg_cmp_gt _ _).mpr ((rng_long hm i n b63 b73).mp q)))] at hr
              exact absurd hr (by decide)
            · unfold rngI at hr
              rw [if_neg b68, if_neg b73, if_neg (fun q => absurd ((lg_cmp_le _ _).mp b108) (Int64.not_le.mpr ((rng_long hm2 j n b68 b73).mp q)))] at hr
              exact absurd hr (by decide)
          · refine j_aload_n dX6_copy_111 rfl rfl ?_
            refine j_iconst (nI 2) dX6_copy_112 rfl ?_
            refine j_callV (m_finds (nI 2)) dX6_copy_113 rfl mv_X6_65 mH_o rfl ⟨(Nat.le_of_ble_eq_true rfl), (Nat.le_of_ble_eq_true rfl)⟩ ⟨(Nat.le_of_ble_eq_true rfl), (Nat.le_of_ble_eq_true rfl)⟩ (Nat.le_of_ble_eq_true rfl) ?_
            exact j_iret rfl dX6_copy_116 rfl rfl (Nat.le_of_ble_eq_true rfl) (Nat.le_of_ble_eq_true rfl)
theorem m_copy_ok {a b i j n m m2 : Nat} (ha : a < 8) (hb : b < 8) (h1 : a5 a = nI m) (h2 : a5 b = nI m2) (hm : m ≤ 40) (hm2 : m2 ≤ 40) (h : a6 a = a6 b) (hi : i + n ≤ m) (hj : j + n ≤ m2) : Ct G yX6_copy cX6_copy 9 (some .int) 3 0 0 z (mH σ a0 a1 a2 a3 a4 a5 a6 a7 a8 a9 a10 a11 i0 i1 i2 i3 i4 i5 i6 i7 i8 i9 i10 i11) [.ref 171, .int (nI a), .int (nI i), .int (nI b), .int (nI j), .int (nI n)] (some (.int (nI n))) z (mH σ a0 a1 a2 a3 a4 a5 a6 (va_cpy a7 a7 (40 * a + i) (40 * b + j) n) a8 a9 a10 a11 i0 (nI 0) i2 i3 i4 i5 i6 i7 i8 i9 i10 i11) := by
  refine Ct.ofJ RX6 rfl [some (.ref 171), some (.int (nI a)), some (.int (nI i)), some (.int (nI b)), some (.int (nI j)), some (.int (nI n)), none, none, none] rfl (by decide) (by simp [Value.category]) ?_
  have key0 : j ≤ i → J G RX6 cX6_copy 9 (some .int) (TQ G 3 0 0 (some (.int (nI n))) z (mH σ a0 a1 a2 a3 a4 a5 a6 (va_cpy a7 a7 (40 * a + i) (40 * b + j) n) a8 a9 a10 a11 i0 (nI 0) i2 i3 i4 i5 i6 i7 i8 i9 i10 i11)) z (mH σ a0 a1 a2 a3 a4 a5 a6 a7 a8 a9 a10 a11 i0 i1 i2 i3 i4 i5 i6 i7 i8 i9 i10 i11) 0 0 133 [some (.ref 171), some (.int (nI a)), some (.int (nI i)), some (.int (nI b)), some (.int (nI j)), some (.int (nI n)), some (.int (nI 0)), some (.int (nI 0)), none] [] := by
    intro b120
    suffices H : ∀ (kk k : Nat) (o : Option Value), k ≤ n → n < k + kk → J G RX6 cX6_copy 9 (some .int) (TQ G 3 0 0 (some (.int (nI n))) z (mH σ a0 a1 a2 a3 a4 a5 a6 (va_cpy a7 a7 (40 * a + i) (40 * b + j) n) a8 a9 a10 a11 i0 (nI 0) i2 i3 i4 i5 i6 i7 i8 i9 i10 i11)) z (mH σ a0 a1 a2 a3 a4 a5 a6 (va_cpy a7 a7 (40 * a + i) (40 * b + j) k) a8 a9 a10 a11 i0 i1 i2 i3 i4 i5 i6 i7 i8 i9 i10 i11) 0 0 133 [some (.ref 171), some (.int (nI a)), some (.int (nI i)), some (.int (nI b)), some (.int (nI j)), some (.int (nI n)), some (.int (nI 0)), some (.int (nI k)), o] [] from (by have := H (n + 1) 0 none (by omega) (by omega); rw [cpy_0] at this; exact this)
    intro kk
    induction kk with
    | zero => intro k o h1 h2; exact absurd h2 (by omega)
    | succ kk ih =>
      intro k o g1 g2
      refine j_iload dX6_copy_133 rfl ?_
      refine j_iload dX6_copy_135 rfl ?_
      refine j_icmp_geN 194 dX6_copy_137 (by decide) (by omega) (by omega) (fun b137 => ?_) (fun b137 => ?_)
      · obtain rfl : k = n := by omega
        refine j_aload_n dX6_copy_194 rfl rfl ?_
        refine j_iload dX6_copy_195 rfl ?_
        refine j_callV (m_fine _) dX6_copy_197 rfl mv_X6_69 mH_o rfl ⟨(Nat.le_of_ble_eq_true rfl), (Nat.le_of_ble_eq_true rfl)⟩ ⟨(Nat.le_of_ble_eq_true rfl), (Nat.le_of_ble_eq_true rfl)⟩ (Nat.le_of_ble_eq_true rfl) ?_
        exact j_iret rfl dX6_copy_200 rfl rfl (Nat.le_of_ble_eq_true rfl) (Nat.le_of_ble_eq_true rfl)
      · refine j_iload dX6_copy_140 rfl ?_
        refine j_top (nI 0) rfl ?_
        refine j_if_eq 155 dX6_copy_142 (by decide) (fun _ => ?_) (fun h => absurd rfl h)
        refine j_iload dX6_copy_155 rfl ?_
        refine j_istore dX6_copy_157 (Nat.le_of_ble_eq_true rfl) rfl ?_
        refine j_aload_n dX6_copy_159 rfl rfl ?_
        refine j_getf dX6_copy_160 6 10 rfl (Nat.le_of_ble_eq_true rfl) fl_X6_32 in_6 mH_o rfl ?_
        refine j_bipush (nI 40) dX6_copy_163 rfl ?_
        refine j_iload_n dX6_copy_165 rfl rfl ?_
        first | refine j_imulN dX6_copy_166 ?_ | refine j_imul dX6_copy_166 ?_
        refine j_iload dX6_copy_167 rfl ?_
        first | refine j_iaddN dX6_copy_169 ?_ | refine j_iadd dX6_copy_169 ?_
        refine j_iload dX6_copy_170 rfl ?_
        first | refine j_iaddN dX6_copy_172 ?_ | refine j_iadd dX6_copy_172 ?_
        refine j_aload_n dX6_copy_173 rfl rfl ?_
        refine j_getf dX6_copy_174 6 10 rfl (Nat.le_of_ble_eq_true rfl) fl_X6_32 in_6 mH_o rfl ?_
        refine j_bipush (nI 40) dX6_copy_177 rfl ?_
        refine j_iload_n dX6_copy_179 rfl rfl ?_
        first | refine j_imulN dX6_copy_180 ?_ | refine j_imul dX6_copy_180 ?_
        refine j_iload_n dX6_copy_181 rfl rfl ?_
        first | refine j_iaddN dX6_copy_182 ?_ | refine j_iadd dX6_copy_182 ?_
        refine j_iload dX6_copy_183 rfl ?_
        first | refine j_iaddN dX6_copy_185 ?_ | refine j_iadd dX6_copy_185 ?_
        refine j_iald dX6_copy_186 mH_a7 rfl (by omega) (by decide) ?_
        refine j_top (a7 (40 * a + i + k)) (pk_cpy_out (by omega)) ?_
        refine j_iast dX6_copy_187 mH_a7 rfl (by omega) (by decide) _ (show _ = (mH σ a0 a1 a2 a3 a4 a5 a6 (va_cpy a7 a7 (40 * a + i) (40 * b + j) (k + 1)) a8 a9 a10 a11 i0 i1 i2 i3 i4 i5 i6 i7 i8 i9 i10 i11) by rw [← cpy_s]; exact mH_s7) ?_
        first | refine j_iincN dX6_copy_188 rfl (Nat.le_of_ble_eq_true rfl) rfl ?_ | refine j_iinc _ dX6_copy_188 rfl rfl (Nat.le_of_ble_eq_true rfl) rfl ?_
        refine j_goto 133 dX6_copy_191 (by decide) ?_
        exact ih (k + 1) _ (by omega) (by omega)
  have key1 : i < j → J G RX6 cX6_copy 9 (some .int) (TQ G 3 0 0 (some (.int (nI n))) z (mH σ a0 a1 a2 a3 a4 a5 a6 (va_cpy a7 a7 (40 * a + i) (40 * b + j) n) a8 a9 a10 a11 i0 (nI 0) i2 i3 i4 i5 i6 i7 i8 i9 i10 i11)) z (mH σ a0 a1 a2 a3 a4 a5 a6 a7 a8 a9 a10 a11 i0 i1 i2 i3 i4 i5 i6 i7 i8 i9 i10 i11) 0 0 133 [some (.ref 171), some (.int (nI a)), some (.int (nI i)), some (.int (nI b)), some (.int (nI j)), some (.int (nI n)), some (.int (nI 1)), some (.int (nI 0)), none] [] := by
    intro b120
    suffices H : ∀ (kk k : Nat) (o : Option Value), k ≤ n → n < k + kk → J G RX6 cX6_copy 9 (some .int) (TQ G 3 0 0 (some (.int (nI n))) z (mH σ a0 a1 a2 a3 a4 a5 a6 (va_cpy a7 a7 (40 * a + i) (40 * b + j) n) a8 a9 a10 a11 i0 (nI 0) i2 i3 i4 i5 i6 i7 i8 i9 i10 i11)) z (mH σ a0 a1 a2 a3 a4 a5 a6 (va_cpy a7 a7 (40 * a + i + (n - k)) (40 * b + j + (n - k)) k) a8 a9 a10 a11 i0 i1 i2 i3 i4 i5 i6 i7 i8 i9 i10 i11) 0 0 133 [some (.ref 171), some (.int (nI a)), some (.int (nI i)), some (.int (nI b)), some (.int (nI j)), some (.int (nI n)), some (.int (nI 1)), some (.int (nI k)), o] [] from (by have := H (n + 1) 0 none (by omega) (by omega); rw [cpy_0] at this; exact this)
    intro kk
    induction kk with
    | zero => intro k o h1 h2; exact absurd h2 (by omega)
    | succ kk ih =>
      intro k o g1 g2
      refine j_iload dX6_copy_133 rfl ?_
      refine j_iload dX6_copy_135 rfl ?_
      refine j_icmp_geN 194 dX6_copy_137 (by decide) (by omega) (by omega) (fun b137 => ?_) (fun b137 => ?_)
      · obtain rfl : k = n := by omega
        rw [Nat.sub_self, Nat.add_zero, Nat.add_zero]
        refine j_aload_n dX6_copy_194 rfl rfl ?_
        refine j_iload dX6_copy_195 rfl ?_
        refine j_callV (m_fine _) dX6_copy_197 rfl mv_X6_69 mH_o rfl ⟨(Nat.le_of_ble_eq_true rfl), (Nat.le_of_ble_eq_true rfl)⟩ ⟨(Nat.le_of_ble_eq_true rfl), (Nat.le_of_ble_eq_true rfl)⟩ (Nat.le_of_ble_eq_true rfl) ?_
        exact j_iret rfl dX6_copy_200 rfl rfl (Nat.le_of_ble_eq_true rfl) (Nat.le_of_ble_eq_true rfl)
      · refine j_iload dX6_copy_140 rfl ?_
        refine j_top (nI 1) rfl ?_
        refine j_if_eq 155 dX6_copy_142 (by decide) (fun h => absurd h (by decide)) (fun _ => ?_)
        refine j_iload dX6_copy_145 rfl ?_
        refine j_iconst (nI 1) dX6_copy_147 rfl ?_
        refine j_isubN dX6_copy_148 (by omega) ?_
        refine j_iload dX6_copy_149 rfl ?_
        refine j_isubN dX6_copy_151 (by omega) ?_
        refine j_goto 157 dX6_copy_152 (by decide) ?_
        refine j_istore dX6_copy_157 (Nat.le_of_ble_eq_true rfl) rfl ?_
        refine j_aload_n dX6_copy_159 rfl rfl ?_
        refine j_getf dX6_copy_160 6 10 rfl (Nat.le_of_ble_eq_true rfl) fl_X6_32 in_6 mH_o rfl ?_
        refine j_bipush (nI 40) dX6_copy_163 rfl ?_
        refine j_iload_n dX6_copy_165 rfl rfl ?_
        first | refine j_imulN dX6_copy_166 ?_ | refine j_imul dX6_copy_166 ?_
        refine j_iload dX6_copy_167 rfl ?_
        first | refine j_iaddN dX6_copy_169 ?_ | refine j_iadd dX6_copy_169 ?_
        refine j_iload dX6_copy_170 rfl ?_
        first | refine j_iaddN dX6_copy_172 ?_ | refine j_iadd dX6_copy_172 ?_
        refine j_aload_n dX6_copy_173 rfl rfl ?_
        refine j_getf dX6_copy_174 6 10 rfl (Nat.le_of_ble_eq_true rfl) fl_X6_32 in_6 mH_o rfl ?_
        refine j_bipush (nI 40) dX6_copy_177 rfl ?_
        refine j_iload_n dX6_copy_179 rfl rfl ?_
        first | refine j_imulN dX6_copy_180 ?_ | refine j_imul dX6_copy_180 ?_
        refine j_iload_n dX6_copy_181 rfl rfl ?_
        first | refine j_iaddN dX6_copy_182 ?_ | refine j_iadd dX6_copy_182 ?_
        refine j_iload dX6_copy_183 rfl ?_
        first | refine j_iaddN dX6_copy_185 ?_ | refine j_iadd dX6_copy_185 ?_
        refine j_iald dX6_copy_186 mH_a7 rfl (by omega) (by decide) ?_
        refine j_top (a7 (40 * a + i + (n - k) - 1)) (by rw [pk_cpy_out (by omega)]; congr 1; omega) ?_
        refine j_iast dX6_copy_187 mH_a7 rfl (by omega) (by decide) _ (show _ = (mH σ a0 a1 a2 a3 a4 a5 a6 (va_cpy a7 a7 (40 * a + i + (n - (k + 1))) (40 * b + j + (n - (k + 1))) (k + 1)) a8 a9 a10 a11 i0 i1 i2 i3 i4 i5 i6 i7 i8 i9 i10 i11) by rw [show 40 * a + i + (n - (k + 1)) = 40 * a + i + (n - k) - 1 by omega, show 40 * b + j + (n - (k + 1)) = 40 * b + j + (n - k) - 1 by omega, ← cpy_b (by omega) (by omega), show 40 * b + j + (n - k) - 1 = 40 * b + j + (n - 1 - k) by omega]; exact mH_s7) ?_
        first | refine j_iincN dX6_copy_188 rfl (Nat.le_of_ble_eq_true rfl) rfl ?_ | refine j_iinc _ dX6_copy_188 rfl rfl (Nat.le_of_ble_eq_true rfl) rfl ?_
        refine j_goto 133 dX6_copy_191 (by decide) ?_
        exact ih (k + 1) _ (by omega) (by omega)
  refine j_iload_n dX6_copy_0 rfl rfl ?_
  refine j_callS (m_isRow (nI a)) dX6_copy_1 rfl ms_X6_58 ⟨(Nat.le_of_ble_eq_true rfl), (Nat.le_of_ble_eq_true rfl)⟩ ⟨(Nat.le_of_ble_eq_true rfl), (Nat.le_of_ble_eq_true rfl)⟩ (Nat.le_of_ble_eq_true rfl) ?_
  refine j_top (nI 1) (inI_k ha) ?_
  refine j_if_eq 14 dX6_copy_4 (by decide) (fun h => absurd h (by decide)) (fun _ => ?_)
  refine j_iload_n dX6_copy_7 rfl rfl ?_
  refine j_callS (m_isRow (nI b)) dX6_copy_8 rfl ms_X6_58 ⟨(Nat.le_of_ble_eq_true rfl), (Nat.le_of_ble_eq_true rfl)⟩ ⟨(Nat.le_of_ble_eq_true rfl), (Nat.le_of_ble_eq_true rfl)⟩ (Nat.le_of_ble_eq_true rfl) ?_
  refine j_top (nI 1) (inI_k hb) ?_
  refine j_if_ne 17 dX6_copy_11 (by decide) (fun _ => ?_) (fun h => absurd h (by decide))
  refine j_aload_n dX6_copy_17 rfl rfl ?_
  refine j_getf dX6_copy_18 6 8 rfl (Nat.le_of_ble_eq_true rfl) fl_X6_26 in_6 mH_o rfl ?_
  refine j_iload_n dX6_copy_21 rfl rfl ?_
  refine j_iald dX6_copy_22 mH_a5 rfl (by omega) (by decide) ?_
  refine j_top (nI m) h1 ?_
  refine j_if_lt 35 dX6_copy_23 (by decide) (fun b23 => by exact absurd b23 (nI_pos (by omega))) (fun b23 => ?_)
  refine j_aload_n dX6_copy_26 rfl rfl ?_
  refine j_getf dX6_copy_27 6 8 rfl (Nat.le_of_ble_eq_true rfl) fl_X6_26 in_6 mH_o rfl ?_
  refine j_iload_n dX6_copy_30 rfl rfl ?_
  refine j_iald dX6_copy_31 mH_a5 rfl (by omega) (by decide) ?_
  refine j_top (nI m2) h2 ?_
  refine j_if_ge 41 dX6_copy_32 (by decide) (fun b32 => ?_) (fun b32 => by exact absurd (nI_pos' (by omega)) b32)
  refine j_aload_n dX6_copy_41 rfl rfl ?_
  refine j_getf dX6_copy_42 6 9 rfl (Nat.le_of_ble_eq_true rfl) fl_X6_29 in_6 mH_o rfl ?_
  refine j_iload_n dX6_copy_45 rfl rfl ?_
  refine j_iald dX6_copy_46 mH_a6 rfl (by omega) (by decide) ?_
  refine j_aload_n dX6_copy_47 rfl rfl ?_
  refine j_getf dX6_copy_48 6 9 rfl (Nat.le_of_ble_eq_true rfl) fl_X6_29 in_6 mH_o rfl ?_
  refine j_iload_n dX6_copy_51 rfl rfl ?_
  refine j_iald dX6_copy_52 mH_a6 rfl (by omega) (by decide) ?_
  refine j_icmp_eq 62 dX6_copy_53 (by decide) (fun b53 => ?_) (fun b53 => by exact absurd h b53)
  refine j_iload_n dX6_copy_62 rfl rfl ?_
  refine j_if_lt 111 dX6_copy_63 (by decide) (fun b63 => by exact absurd b63 (nI_pos (by omega))) (fun b63 => ?_)
  refine j_iload dX6_copy_66 rfl ?_
  refine j_if_lt 111 dX6_copy_68 (by decide) (fun b68 => by exact absurd b68 (nI_pos (by omega))) (fun b68 => ?_)
  refine j_iload dX6_copy_71 rfl ?_
  refine j_if_lt 111 dX6_copy_73 (by decide) (fun b73 => by exact absurd b73 (nI_pos (by omega))) (fun b73 => ?_)
  refine j_iload_n dX6_copy_76 rfl rfl ?_
  refine j_i2l dX6_copy_77 ?_
  refine j_iload dX6_copy_78 rfl ?_
  refine j_i2l dX6_copy_80 ?_
  refine j_ladd dX6_copy_81 ?_
  refine j_aload_n dX6_copy_82 rfl rfl ?_
  refine j_getf dX6_copy_83 6 8 rfl (Nat.le_of_ble_eq_true rfl) fl_X6_26 in_6 mH_o rfl ?_
  refine j_iload_n dX6_copy_86 rfl rfl ?_
  refine j_iald dX6_copy_87 mH_a5 rfl (by omega) (by decide) ?_
  refine j_top (nI m) h1 ?_
  refine j_i2l dX6_copy_88 ?_
  refine j_lcmp dX6_copy_89 ?_
  refine j_if_gt 111 dX6_copy_90 (by decide) (fun b90 => by exact absurd ((rng_long hm (nI i) (nI n) (nI_pos (by omega)) (nI_pos (by omega))).mpr ((lg_cmp_gt _ _).mp b90)) (by rw [pk_sub (by omega)]; exact nI_nlt (by omega) (by omega))) (fun b90 => ?_)
  refine j_iload dX6_copy_93 rfl ?_
  refine j_i2l dX6_copy_95 ?_
  refine j_iload dX6_copy_96 rfl ?_
  refine j_i2l dX6_copy_98 ?_
  refine j_ladd dX6_copy_99 ?_
  refine j_aload_n dX6_copy_100 rfl rfl ?_
  refine j_getf dX6_copy_101 6 8 rfl (Nat.le_of_ble_eq_true rfl) fl_X6_26 in_6 mH_o rfl ?_
  refine j_iload_n dX6_copy_104 rfl rfl ?_
  refine j_iald dX6_copy_105 mH_a5 rfl (by omega) (by decide) ?_
  refine j_top (nI m2) h2 ?_
  refine j_i2l dX6_copy_106 ?_
  refine j_lcmp dX6_copy_107 ?_
  refine j_if_le 117 dX6_copy_108 (by decide) (fun b108 => ?_) (fun b108 => by exact absurd ((rng_long hm2 (nI j) (nI n) (nI_pos (by omega)) (nI_pos (by omega))).mpr (Int64.not_le.mp (fun q => b108 ((lg_cmp_le _ _).mpr q)))) (by rw [pk_sub (by omega)]; exact nI_nlt (by omega) (by omega)))
  refine j_iload_n dX6_copy_117 rfl rfl ?_
  refine j_iload dX6_copy_118 rfl ?_
  refine j_icmp_geN 127 dX6_copy_120 (by decide) (by omega) (by omega) (fun b120 => ?_) (fun b120 => ?_)
  · refine j_iconst (nI 0) dX6_copy_127 rfl ?_
    refine j_istore dX6_copy_128 (Nat.le_of_ble_eq_true rfl) rfl ?_
    refine j_iconst (nI 0) dX6_copy_130 rfl ?_
    refine j_istore dX6_copy_131 (Nat.le_of_ble_eq_true rfl) rfl ?_
    first | exact key0 b120 | exact key1 b120
  · refine j_iconst (nI 1) dX6_copy_123 rfl ?_
    refine j_goto 128 dX6_copy_124 (by decide) ?_
    refine j_istore dX6_copy_128 (Nat.le_of_ble_eq_true rfl) rfl ?_
    refine j_iconst (nI 0) dX6_copy_130 rfl ?_
    refine j_istore dX6_copy_131 (Nat.le_of_ble_eq_true rfl) rfl ?_
    first | exact key0 b120 | exact key1 b120
end M3

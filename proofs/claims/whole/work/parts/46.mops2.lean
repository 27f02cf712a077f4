/-! THE MODEL's calls: person, as, count, cheats, walk (template printed by wip/tools/mkm46.py) -/
theorem dX6_person__0 : decode cX6_person_ 0 = .ok (.aload_n 0, 1) := by decide +kernel
theorem dX6_person__1 : decode cX6_person_ 1 = .ok (.iload_n 1, 1) := by decide +kernel
theorem dX6_person__2 : decode cX6_person_ 2 = .ok (.invokevirtual 148, 3) := by decide +kernel
theorem dX6_person__5 : decode cX6_person_ 5 = .ok (.ifCond .eq 36, 3) := by decide +kernel
theorem dX6_person__8 : decode cX6_person_ 8 = .ok (.iload_n 2, 1) := by decide +kernel
theorem dX6_person__9 : decode cX6_person_ 9 = .ok (.i2l, 1) := by decide +kernel
theorem dX6_person__10 : decode cX6_person_ 10 = .ok (.lconst 0, 1) := by decide +kernel
theorem dX6_person__11 : decode cX6_person_ 11 = .ok (.ldc2_w 52, 3) := by decide +kernel
theorem dX6_person__14 : decode cX6_person_ 14 = .ok (.invokestatic 54, 3) := by decide +kernel
theorem dX6_person__17 : decode cX6_person_ 17 = .ok (.ifCond .ne 27, 3) := by decide +kernel
theorem dX6_person__20 : decode cX6_person_ 20 = .ok (.iload_n 2, 1) := by decide +kernel
theorem dX6_person__21 : decode cX6_person_ 21 = .ok (.i2l, 1) := by decide +kernel
theorem dX6_person__22 : decode cX6_person_ 22 = .ok (.ldc2_w 184, 3) := by decide +kernel
theorem dX6_person__25 : decode cX6_person_ 25 = .ok (.bipush 9, 2) := by decide +kernel
theorem dX6_person__27 : decode cX6_person_ 27 = .ok (.aload_n 0, 1) := by decide +kernel
theorem dX6_person__28 : decode cX6_person_ 28 = .ok (.getfield 7, 3) := by decide +kernel
theorem dX6_person__31 : decode cX6_person_ 31 = .ok (.iconst 2, 1) := by decide +kernel
theorem dX6_person__32 : decode cX6_person_ 32 = .ok (.iaload, 1) := by decide +kernel
theorem dX6_person__33 : decode cX6_person_ 33 = .ok (.iadd, 1) := by decide +kernel
theorem dX6_person__34 : decode cX6_person_ 34 = .ok (.i2l, 1) := by decide +kernel
theorem dX6_person__35 : decode cX6_person_ 35 = .ok (.invokestatic 54, 3) := by decide +kernel
theorem dX6_person__38 : decode cX6_person_ 38 = .ok (.ifCond .ne 6, 3) := by decide +kernel
theorem dX6_person__41 : decode cX6_person_ 41 = .ok (.ldc 64, 2) := by decide +kernel
theorem dX6_person__43 : decode cX6_person_ 43 = .ok (.ireturn, 1) := by decide +kernel
theorem dX6_person__44 : decode cX6_person_ 44 = .ok (.iload_n 2, 1) := by decide +kernel
theorem dX6_person__45 : decode cX6_person_ 45 = .ok (.bipush 9, 2) := by decide +kernel
theorem dX6_person__47 : decode cX6_person_ 47 = .ok (.if_icmp .le 21, 3) := by decide +kernel
theorem dX6_person__50 : decode cX6_person_ 50 = .ok (.aload_n 0, 1) := by decide +kernel
theorem dX6_person__51 : decode cX6_person_ 51 = .ok (.getfield 7, 3) := by decide +kernel
theorem dX6_person__54 : decode cX6_person_ 54 = .ok (.bipush 40, 2) := by decide +kernel
theorem dX6_person__56 : decode cX6_person_ 56 = .ok (.bipush 7, 2) := by decide +kernel
theorem dX6_person__58 : decode cX6_person_ 58 = .ok (.iload_n 1, 1) := by decide +kernel
theorem dX6_person__59 : decode cX6_person_ 59 = .ok (.imul, 1) := by decide +kernel
theorem dX6_person__60 : decode cX6_person_ 60 = .ok (.iadd, 1) := by decide +kernel
theorem dX6_person__61 : decode cX6_person_ 61 = .ok (.iload_n 2, 1) := by decide +kernel
theorem dX6_person__62 : decode cX6_person_ 62 = .ok (.iadd, 1) := by decide +kernel
theorem dX6_person__63 : decode cX6_person_ 63 = .ok (.bipush 10, 2) := by decide +kernel
theorem dX6_person__65 : decode cX6_person_ 65 = .ok (.isub, 1) := by decide +kernel
theorem dX6_person__66 : decode cX6_person_ 66 = .ok (.iaload, 1) := by decide +kernel
theorem dX6_person__67 : decode cX6_person_ 67 = .ok (.ireturn, 1) := by decide +kernel
theorem dX6_person__68 : decode cX6_person_ 68 = .ok (.iload_n 2, 1) := by decide +kernel
theorem dX6_person__69 : decode cX6_person_ 69 = .ok (.iconst 4, 1) := by decide +kernel
theorem dX6_person__70 : decode cX6_person_ 70 = .ok (.if_icmp .ne 11, 3) := by decide +kernel
theorem dX6_person__73 : decode cX6_person_ 73 = .ok (.aload_n 0, 1) := by decide +kernel
theorem dX6_person__74 : decode cX6_person_ 74 = .ok (.iload_n 1, 1) := by decide +kernel
theorem dX6_person__75 : decode cX6_person_ 75 = .ok (.invokevirtual 172, 3) := by decide +kernel
theorem dX6_person__78 : decode cX6_person_ 78 = .ok (.goto 43, 3) := by decide +kernel
theorem dX6_person__81 : decode cX6_person_ 81 = .ok (.iload_n 2, 1) := by decide +kernel
theorem dX6_person__82 : decode cX6_person_ 82 = .ok (.iconst 5, 1) := by decide +kernel
theorem dX6_person__83 : decode cX6_person_ 83 = .ok (.if_icmp .ne 15, 3) := by decide +kernel
theorem dX6_person__86 : decode cX6_person_ 86 = .ok (.aload_n 0, 1) := by decide +kernel
theorem dX6_person__87 : decode cX6_person_ 87 = .ok (.getfield 7, 3) := by decide +kernel
theorem dX6_person__90 : decode cX6_person_ 90 = .ok (.bipush 18, 2) := by decide +kernel
theorem dX6_person__92 : decode cX6_person_ 92 = .ok (.iload_n 1, 1) := by decide +kernel
theorem dX6_person__93 : decode cX6_person_ 93 = .ok (.iadd, 1) := by decide +kernel
theorem dX6_person__94 : decode cX6_person_ 94 = .ok (.iaload, 1) := by decide +kernel
theorem dX6_person__95 : decode cX6_person_ 95 = .ok (.goto 26, 3) := by decide +kernel
theorem dX6_person__98 : decode cX6_person_ 98 = .ok (.iload_n 2, 1) := by decide +kernel
theorem dX6_person__99 : decode cX6_person_ 99 = .ok (.bipush 6, 2) := by decide +kernel
theorem dX6_person__101 : decode cX6_person_ 101 = .ok (.if_icmp .ne 15, 3) := by decide +kernel
theorem dX6_person__104 : decode cX6_person_ 104 = .ok (.aload_n 0, 1) := by decide +kernel
theorem dX6_person__105 : decode cX6_person_ 105 = .ok (.getfield 7, 3) := by decide +kernel
theorem dX6_person__108 : decode cX6_person_ 108 = .ok (.bipush 32, 2) := by decide +kernel
theorem dX6_person__110 : decode cX6_person_ 110 = .ok (.iload_n 1, 1) := by decide +kernel
theorem dX6_person__111 : decode cX6_person_ 111 = .ok (.iadd, 1) := by decide +kernel
theorem dX6_person__112 : decode cX6_person_ 112 = .ok (.iaload, 1) := by decide +kernel
theorem dX6_person__113 : decode cX6_person_ 113 = .ok (.goto 8, 3) := by decide +kernel
theorem dX6_person__116 : decode cX6_person_ 116 = .ok (.aload_n 0, 1) := by decide +kernel
theorem dX6_person__117 : decode cX6_person_ 117 = .ok (.iload_n 1, 1) := by decide +kernel
theorem dX6_person__118 : decode cX6_person_ 118 = .ok (.invokevirtual 186, 3) := by decide +kernel
theorem dX6_person__121 : decode cX6_person_ 121 = .ok (.istore_n 3, 1) := by decide +kernel
theorem dX6_person__122 : decode cX6_person_ 122 = .ok (.iload_n 2, 1) := by decide +kernel
theorem dX6_person__123 : decode cX6_person_ 123 = .ok (.ifCond .ne 14, 3) := by decide +kernel
theorem dX6_person__126 : decode cX6_person_ 126 = .ok (.aload_n 0, 1) := by decide +kernel
theorem dX6_person__127 : decode cX6_person_ 127 = .ok (.getfield 7, 3) := by decide +kernel
theorem dX6_person__130 : decode cX6_person_ 130 = .ok (.iconst 4, 1) := by decide +kernel
theorem dX6_person__131 : decode cX6_person_ 131 = .ok (.iload_n 1, 1) := by decide +kernel
theorem dX6_person__132 : decode cX6_person_ 132 = .ok (.iadd, 1) := by decide +kernel
theorem dX6_person__133 : decode cX6_person_ 133 = .ok (.iaload, 1) := by decide +kernel
theorem dX6_person__134 : decode cX6_person_ 134 = .ok (.goto 53, 3) := by decide +kernel
theorem dX6_person__137 : decode cX6_person_ 137 = .ok (.iload_n 2, 1) := by decide +kernel
theorem dX6_person__138 : decode cX6_person_ 138 = .ok (.iconst 1, 1) := by decide +kernel
theorem dX6_person__139 : decode cX6_person_ 139 = .ok (.if_icmp .ne 15, 3) := by decide +kernel
theorem dX6_person__142 : decode cX6_person_ 142 = .ok (.aload_n 0, 1) := by decide +kernel
theorem dX6_person__143 : decode cX6_person_ 143 = .ok (.getfield 7, 3) := by decide +kernel
theorem dX6_person__146 : decode cX6_person_ 146 = .ok (.bipush 11, 2) := by decide +kernel
theorem dX6_person__148 : decode cX6_person_ 148 = .ok (.iload_n 1, 1) := by decide +kernel
theorem dX6_person__149 : decode cX6_person_ 149 = .ok (.iadd, 1) := by decide +kernel
theorem dX6_person__150 : decode cX6_person_ 150 = .ok (.iaload, 1) := by decide +kernel
theorem dX6_person__151 : decode cX6_person_ 151 = .ok (.goto 36, 3) := by decide +kernel
theorem dX6_person__154 : decode cX6_person_ 154 = .ok (.iload_n 2, 1) := by decide +kernel
theorem dX6_person__155 : decode cX6_person_ 155 = .ok (.iconst 2, 1) := by decide +kernel
theorem dX6_person__156 : decode cX6_person_ 156 = .ok (.if_icmp .ne 14, 3) := by decide +kernel
theorem dX6_person__159 : decode cX6_person_ 159 = .ok (.aload_n 0, 1) := by decide +kernel
theorem dX6_person__160 : decode cX6_person_ 160 = .ok (.getfield 7, 3) := by decide +kernel
theorem dX6_person__163 : decode cX6_person_ 163 = .ok (.iload_n 1, 1) := by decide +kernel
theorem dX6_person__164 : decode cX6_person_ 164 = .ok (.invokestatic 151, 3) := by decide +kernel
theorem dX6_person__167 : decode cX6_person_ 167 = .ok (.goto 20, 3) := by decide +kernel
theorem dX6_person__170 : decode cX6_person_ 170 = .ok (.iload_n 2, 1) := by decide +kernel
theorem dX6_person__171 : decode cX6_person_ 171 = .ok (.iconst 3, 1) := by decide +kernel
theorem dX6_person__172 : decode cX6_person_ 172 = .ok (.if_icmp .ne 14, 3) := by decide +kernel
theorem dX6_person__175 : decode cX6_person_ 175 = .ok (.aload_n 0, 1) := by decide +kernel
theorem dX6_person__176 : decode cX6_person_ 176 = .ok (.getfield 7, 3) := by decide +kernel
theorem dX6_person__179 : decode cX6_person_ 179 = .ok (.iload_n 1, 1) := by decide +kernel
theorem dX6_person__180 : decode cX6_person_ 180 = .ok (.invokestatic 155, 3) := by decide +kernel
theorem dX6_person__183 : decode cX6_person_ 183 = .ok (.goto 4, 3) := by decide +kernel
theorem dX6_person__186 : decode cX6_person_ 186 = .ok (.iload_n 3, 1) := by decide +kernel
theorem dX6_person__187 : decode cX6_person_ 187 = .ok (.ireturn, 1) := by decide +kernel
theorem dX6_as_0 : decode cX6_as 0 = .ok (.aload_n 0, 1) := by decide +kernel
theorem dX6_as_1 : decode cX6_as 1 = .ok (.iload_n 1, 1) := by decide +kernel
theorem dX6_as_2 : decode cX6_as 2 = .ok (.invokevirtual 148, 3) := by decide +kernel
theorem dX6_as_5 : decode cX6_as 5 = .ok (.ifCond .eq 15, 3) := by decide +kernel
theorem dX6_as_8 : decode cX6_as 8 = .ok (.iload_n 2, 1) := by decide +kernel
theorem dX6_as_9 : decode cX6_as 9 = .ok (.i2l, 1) := by decide +kernel
theorem dX6_as_10 : decode cX6_as 10 = .ok (.lconst 0, 1) := by decide +kernel
theorem dX6_as_11 : decode cX6_as 11 = .ok (.ldc2_w 208, 3) := by decide +kernel
theorem dX6_as_14 : decode cX6_as 14 = .ok (.invokestatic 54, 3) := by decide +kernel
theorem dX6_as_17 : decode cX6_as 17 = .ok (.ifCond .ne 6, 3) := by decide +kernel
theorem dX6_as_20 : decode cX6_as 20 = .ok (.ldc 64, 2) := by decide +kernel
theorem dX6_as_22 : decode cX6_as 22 = .ok (.ireturn, 1) := by decide +kernel
theorem dX6_as_23 : decode cX6_as 23 = .ok (.aload_n 0, 1) := by decide +kernel
theorem dX6_as_24 : decode cX6_as 24 = .ok (.iload_n 1, 1) := by decide +kernel
theorem dX6_as_25 : decode cX6_as 25 = .ok (.invokevirtual 205, 3) := by decide +kernel
theorem dX6_as_28 : decode cX6_as 28 = .ok (.istore_n 3, 1) := by decide +kernel
theorem dX6_as_29 : decode cX6_as 29 = .ok (.iload_n 2, 1) := by decide +kernel
theorem dX6_as_30 : decode cX6_as 30 = .ok (.ifCond .eq 28, 3) := by decide +kernel
theorem dX6_as_33 : decode cX6_as 33 = .ok (.iload_n 2, 1) := by decide +kernel
theorem dX6_as_34 : decode cX6_as 34 = .ok (.iload_n 3, 1) := by decide +kernel
theorem dX6_as_35 : decode cX6_as 35 = .ok (.if_icmp .eq 23, 3) := by decide +kernel
theorem dX6_as_38 : decode cX6_as 38 = .ok (.iload_n 2, 1) := by decide +kernel
theorem dX6_as_39 : decode cX6_as 39 = .ok (.iconst 4, 1) := by decide +kernel
theorem dX6_as_40 : decode cX6_as 40 = .ok (.if_icmp .ne 8, 3) := by decide +kernel
theorem dX6_as_43 : decode cX6_as 43 = .ok (.iload_n 3, 1) := by decide +kernel
theorem dX6_as_44 : decode cX6_as 44 = .ok (.iconst 5, 1) := by decide +kernel
theorem dX6_as_45 : decode cX6_as 45 = .ok (.if_icmp .eq 13, 3) := by decide +kernel
theorem dX6_as_48 : decode cX6_as 48 = .ok (.iload_n 3, 1) := by decide +kernel
theorem dX6_as_49 : decode cX6_as 49 = .ok (.iconst 4, 1) := by decide +kernel
theorem dX6_as_50 : decode cX6_as 50 = .ok (.if_icmp .ge 12, 3) := by decide +kernel
theorem dX6_as_53 : decode cX6_as 53 = .ok (.iload_n 2, 1) := by decide +kernel
theorem dX6_as_54 : decode cX6_as 54 = .ok (.iload_n 3, 1) := by decide +kernel
theorem dX6_as_55 : decode cX6_as 55 = .ok (.if_icmp .ge 7, 3) := by decide +kernel
theorem dX6_as_58 : decode cX6_as 58 = .ok (.iconst 1, 1) := by decide +kernel
theorem dX6_as_59 : decode cX6_as 59 = .ok (.goto 4, 3) := by decide +kernel
theorem dX6_as_62 : decode cX6_as 62 = .ok (.iconst 0, 1) := by decide +kernel
theorem dX6_as_63 : decode cX6_as 63 = .ok (.istore 4, 2) := by decide +kernel
theorem dX6_as_65 : decode cX6_as 65 = .ok (.iload 4, 2) := by decide +kernel
theorem dX6_as_67 : decode cX6_as 67 = .ok (.ifCond .eq 11, 3) := by decide +kernel
theorem dX6_as_70 : decode cX6_as 70 = .ok (.aload_n 0, 1) := by decide +kernel
theorem dX6_as_71 : decode cX6_as 71 = .ok (.iload_n 1, 1) := by decide +kernel
theorem dX6_as_72 : decode cX6_as 72 = .ok (.invokevirtual 69, 3) := by decide +kernel
theorem dX6_as_75 : decode cX6_as 75 = .ok (.goto 8, 3) := by decide +kernel
theorem dX6_as_78 : decode cX6_as 78 = .ok (.aload_n 0, 1) := by decide +kernel
theorem dX6_as_79 : decode cX6_as 79 = .ok (.iconst 3, 1) := by decide +kernel
theorem dX6_as_80 : decode cX6_as 80 = .ok (.invokevirtual 65, 3) := by decide +kernel
theorem dX6_as_83 : decode cX6_as 83 = .ok (.ireturn, 1) := by decide +kernel
theorem dX6_count_0 : decode cX6_count 0 = .ok (.iload_n 1, 1) := by decide +kernel
theorem dX6_count_1 : decode cX6_count 1 = .ok (.i2l, 1) := by decide +kernel
theorem dX6_count_2 : decode cX6_count 2 = .ok (.lconst 0, 1) := by decide +kernel
theorem dX6_count_3 : decode cX6_count 3 = .ok (.ldc2_w 191, 3) := by decide +kernel
theorem dX6_count_6 : decode cX6_count 6 = .ok (.invokestatic 54, 3) := by decide +kernel
theorem dX6_count_9 : decode cX6_count 9 = .ok (.ifCond .ne 6, 3) := by decide +kernel
theorem dX6_count_12 : decode cX6_count 12 = .ok (.ldc 64, 2) := by decide +kernel
theorem dX6_count_14 : decode cX6_count 14 = .ok (.ireturn, 1) := by decide +kernel
theorem dX6_count_15 : decode cX6_count 15 = .ok (.iconst 0, 1) := by decide +kernel
theorem dX6_count_16 : decode cX6_count 16 = .ok (.istore_n 2, 1) := by decide +kernel
theorem dX6_count_17 : decode cX6_count 17 = .ok (.iconst 0, 1) := by decide +kernel
theorem dX6_count_18 : decode cX6_count 18 = .ok (.istore_n 3, 1) := by decide +kernel
theorem dX6_count_19 : decode cX6_count 19 = .ok (.iload_n 3, 1) := by decide +kernel
theorem dX6_count_20 : decode cX6_count 20 = .ok (.bipush 8, 2) := by decide +kernel
theorem dX6_count_22 : decode cX6_count 22 = .ok (.if_icmp .ge 26, 3) := by decide +kernel
theorem dX6_count_25 : decode cX6_count 25 = .ok (.iload_n 2, 1) := by decide +kernel
theorem dX6_count_26 : decode cX6_count 26 = .ok (.aload_n 0, 1) := by decide +kernel
theorem dX6_count_27 : decode cX6_count 27 = .ok (.getfield 26, 3) := by decide +kernel
theorem dX6_count_30 : decode cX6_count 30 = .ok (.iload_n 3, 1) := by decide +kernel
theorem dX6_count_31 : decode cX6_count 31 = .ok (.iaload, 1) := by decide +kernel
theorem dX6_count_32 : decode cX6_count 32 = .ok (.ifCond .ge 7, 3) := by decide +kernel
theorem dX6_count_35 : decode cX6_count 35 = .ok (.iconst 0, 1) := by decide +kernel
theorem dX6_count_36 : decode cX6_count 36 = .ok (.goto 4, 3) := by decide +kernel
theorem dX6_count_39 : decode cX6_count 39 = .ok (.iconst 1, 1) := by decide +kernel
theorem dX6_count_40 : decode cX6_count 40 = .ok (.iadd, 1) := by decide +kernel
theorem dX6_count_41 : decode cX6_count 41 = .ok (.istore_n 2, 1) := by decide +kernel
theorem dX6_count_42 : decode cX6_count 42 = .ok (.iinc 3 1, 3) := by decide +kernel
theorem dX6_count_45 : decode cX6_count 45 = .ok (.goto (-26), 3) := by decide +kernel
theorem dX6_count_48 : decode cX6_count 48 = .ok (.iconst 0, 1) := by decide +kernel
theorem dX6_count_49 : decode cX6_count 49 = .ok (.istore_n 3, 1) := by decide +kernel
theorem dX6_count_50 : decode cX6_count 50 = .ok (.iconst 0, 1) := by decide +kernel
theorem dX6_count_51 : decode cX6_count 51 = .ok (.istore 4, 2) := by decide +kernel
theorem dX6_count_53 : decode cX6_count 53 = .ok (.iload 4, 2) := by decide +kernel
theorem dX6_count_55 : decode cX6_count 55 = .ok (.bipush 49, 2) := by decide +kernel
theorem dX6_count_57 : decode cX6_count 57 = .ok (.if_icmp .ge 30, 3) := by decide +kernel
theorem dX6_count_60 : decode cX6_count 60 = .ok (.iload_n 3, 1) := by decide +kernel
theorem dX6_count_61 : decode cX6_count 61 = .ok (.aload_n 0, 1) := by decide +kernel
theorem dX6_count_62 : decode cX6_count 62 = .ok (.getfield 7, 3) := by decide +kernel
theorem dX6_count_65 : decode cX6_count 65 = .ok (.bipush 40, 2) := by decide +kernel
theorem dX6_count_67 : decode cX6_count 67 = .ok (.iload 4, 2) := by decide +kernel
theorem dX6_count_69 : decode cX6_count 69 = .ok (.iadd, 1) := by decide +kernel
theorem dX6_count_70 : decode cX6_count 70 = .ok (.iaload, 1) := by decide +kernel
theorem dX6_count_71 : decode cX6_count 71 = .ok (.ifCond .le 7, 3) := by decide +kernel
theorem dX6_count_74 : decode cX6_count 74 = .ok (.iconst 1, 1) := by decide +kernel
theorem dX6_count_75 : decode cX6_count 75 = .ok (.goto 4, 3) := by decide +kernel
theorem dX6_count_78 : decode cX6_count 78 = .ok (.iconst 0, 1) := by decide +kernel
theorem dX6_count_79 : decode cX6_count 79 = .ok (.iadd, 1) := by decide +kernel
theorem dX6_count_80 : decode cX6_count 80 = .ok (.istore_n 3, 1) := by decide +kernel
theorem dX6_count_81 : decode cX6_count 81 = .ok (.iinc 4 1, 3) := by decide +kernel
theorem dX6_count_84 : decode cX6_count 84 = .ok (.goto (-31), 3) := by decide +kernel
theorem dX6_count_87 : decode cX6_count 87 = .ok (.iconst 0, 1) := by decide +kernel
theorem dX6_count_88 : decode cX6_count 88 = .ok (.istore 4, 2) := by decide +kernel
theorem dX6_count_90 : decode cX6_count 90 = .ok (.iconst 0, 1) := by decide +kernel
theorem dX6_count_91 : decode cX6_count 91 = .ok (.istore 5, 2) := by decide +kernel
theorem dX6_count_93 : decode cX6_count 93 = .ok (.iload 5, 2) := by decide +kernel
theorem dX6_count_95 : decode cX6_count 95 = .ok (.aload_n 0, 1) := by decide +kernel
theorem dX6_count_96 : decode cX6_count 96 = .ok (.getfield 7, 3) := by decide +kernel
theorem dX6_count_99 : decode cX6_count 99 = .ok (.iconst 2, 1) := by decide +kernel
theorem dX6_count_100 : decode cX6_count 100 = .ok (.iaload, 1) := by decide +kernel
theorem dX6_count_101 : decode cX6_count 101 = .ok (.if_icmp .ge 23, 3) := by decide +kernel
theorem dX6_count_104 : decode cX6_count 104 = .ok (.iload 4, 2) := by decide +kernel
theorem dX6_count_106 : decode cX6_count 106 = .ok (.aload_n 0, 1) := by decide +kernel
theorem dX6_count_107 : decode cX6_count 107 = .ok (.getfield 7, 3) := by decide +kernel
theorem dX6_count_110 : decode cX6_count 110 = .ok (.iconst 4, 1) := by decide +kernel
theorem dX6_count_111 : decode cX6_count 111 = .ok (.iload 5, 2) := by decide +kernel
theorem dX6_count_113 : decode cX6_count 113 = .ok (.iadd, 1) := by decide +kernel
theorem dX6_count_114 : decode cX6_count 114 = .ok (.iaload, 1) := by decide +kernel
theorem dX6_count_115 : decode cX6_count 115 = .ok (.iadd, 1) := by decide +kernel
theorem dX6_count_116 : decode cX6_count 116 = .ok (.istore 4, 2) := by decide +kernel
theorem dX6_count_118 : decode cX6_count 118 = .ok (.iinc 5 1, 3) := by decide +kernel
theorem dX6_count_121 : decode cX6_count 121 = .ok (.goto (-28), 3) := by decide +kernel
theorem dX6_count_124 : decode cX6_count 124 = .ok (.iload_n 1, 1) := by decide +kernel
theorem dX6_count_125 : decode cX6_count 125 = .ok (.ifCond .ne 7, 3) := by decide +kernel
theorem dX6_count_128 : decode cX6_count 128 = .ok (.iload_n 2, 1) := by decide +kernel
theorem dX6_count_129 : decode cX6_count 129 = .ok (.goto 66, 3) := by decide +kernel
theorem dX6_count_132 : decode cX6_count 132 = .ok (.iload_n 1, 1) := by decide +kernel
theorem dX6_count_133 : decode cX6_count 133 = .ok (.iconst 1, 1) := by decide +kernel
theorem dX6_count_134 : decode cX6_count 134 = .ok (.if_icmp .ne 12, 3) := by decide +kernel
theorem dX6_count_137 : decode cX6_count 137 = .ok (.aload_n 0, 1) := by decide +kernel
theorem dX6_count_138 : decode cX6_count 138 = .ok (.getfield 7, 3) := by decide +kernel
theorem dX6_count_141 : decode cX6_count 141 = .ok (.iconst 2, 1) := by decide +kernel
theorem dX6_count_142 : decode cX6_count 142 = .ok (.iaload, 1) := by decide +kernel
theorem dX6_count_143 : decode cX6_count 143 = .ok (.goto 52, 3) := by decide +kernel
theorem dX6_count_146 : decode cX6_count 146 = .ok (.iload_n 1, 1) := by decide +kernel
theorem dX6_count_147 : decode cX6_count 147 = .ok (.iconst 2, 1) := by decide +kernel
theorem dX6_count_148 : decode cX6_count 148 = .ok (.if_icmp .ne 7, 3) := by decide +kernel
theorem dX6_count_151 : decode cX6_count 151 = .ok (.iload_n 3, 1) := by decide +kernel
theorem dX6_count_152 : decode cX6_count 152 = .ok (.goto 43, 3) := by decide +kernel
theorem dX6_count_155 : decode cX6_count 155 = .ok (.iload_n 1, 1) := by decide +kernel
theorem dX6_count_156 : decode cX6_count 156 = .ok (.iconst 3, 1) := by decide +kernel
theorem dX6_count_157 : decode cX6_count 157 = .ok (.if_icmp .ne 12, 3) := by decide +kernel
theorem dX6_count_160 : decode cX6_count 160 = .ok (.aload_n 0, 1) := by decide +kernel
theorem dX6_count_161 : decode cX6_count 161 = .ok (.getfield 7, 3) := by decide +kernel
theorem dX6_count_164 : decode cX6_count 164 = .ok (.iconst 3, 1) := by decide +kernel
theorem dX6_count_165 : decode cX6_count 165 = .ok (.iaload, 1) := by decide +kernel
theorem dX6_count_166 : decode cX6_count 166 = .ok (.goto 29, 3) := by decide +kernel
theorem dX6_count_169 : decode cX6_count 169 = .ok (.iload_n 1, 1) := by decide +kernel
theorem dX6_count_170 : decode cX6_count 170 = .ok (.iconst 4, 1) := by decide +kernel
theorem dX6_count_171 : decode cX6_count 171 = .ok (.if_icmp .ne 10, 3) := by decide +kernel
theorem dX6_count_174 : decode cX6_count 174 = .ok (.aload_n 0, 1) := by decide +kernel
theorem dX6_count_175 : decode cX6_count 175 = .ok (.getfield 145, 3) := by decide +kernel
theorem dX6_count_178 : decode cX6_count 178 = .ok (.goto 17, 3) := by decide +kernel
theorem dX6_count_181 : decode cX6_count 181 = .ok (.iload_n 1, 1) := by decide +kernel
theorem dX6_count_182 : decode cX6_count 182 = .ok (.iconst 5, 1) := by decide +kernel
theorem dX6_count_183 : decode cX6_count 183 = .ok (.if_icmp .ne 8, 3) := by decide +kernel
theorem dX6_count_186 : decode cX6_count 186 = .ok (.iload 4, 2) := by decide +kernel
theorem dX6_count_188 : decode cX6_count 188 = .ok (.goto 7, 3) := by decide +kernel
theorem dX6_count_191 : decode cX6_count 191 = .ok (.aload_n 0, 1) := by decide +kernel
theorem dX6_count_192 : decode cX6_count 192 = .ok (.getfield 74, 3) := by decide +kernel
theorem dX6_count_195 : decode cX6_count 195 = .ok (.ireturn, 1) := by decide +kernel
theorem dX6_cheats_0 : decode cX6_cheats 0 = .ok (.aload_n 0, 1) := by decide +kernel
theorem dX6_cheats_1 : decode cX6_cheats 1 = .ok (.getfield 7, 3) := by decide +kernel
theorem dX6_cheats_4 : decode cX6_cheats 4 = .ok (.iconst 0, 1) := by decide +kernel
theorem dX6_cheats_5 : decode cX6_cheats 5 = .ok (.iaload, 1) := by decide +kernel
theorem dX6_cheats_6 : decode cX6_cheats 6 = .ok (.ifCond .ne 6, 3) := by decide +kernel
theorem dX6_cheats_9 : decode cX6_cheats 9 = .ok (.ldc 163, 2) := by decide +kernel
theorem dX6_cheats_11 : decode cX6_cheats 11 = .ok (.ireturn, 1) := by decide +kernel
theorem dX6_cheats_12 : decode cX6_cheats 12 = .ok (.iconst 0, 1) := by decide +kernel
theorem dX6_cheats_13 : decode cX6_cheats 13 = .ok (.istore_n 1, 1) := by decide +kernel
theorem dX6_cheats_14 : decode cX6_cheats 14 = .ok (.iconst 0, 1) := by decide +kernel
theorem dX6_cheats_15 : decode cX6_cheats 15 = .ok (.istore_n 2, 1) := by decide +kernel
theorem dX6_cheats_16 : decode cX6_cheats 16 = .ok (.iload_n 2, 1) := by decide +kernel
theorem dX6_cheats_17 : decode cX6_cheats 17 = .ok (.aload_n 0, 1) := by decide +kernel
theorem dX6_cheats_18 : decode cX6_cheats 18 = .ok (.getfield 7, 3) := by decide +kernel
theorem dX6_cheats_21 : decode cX6_cheats 21 = .ok (.iconst 2, 1) := by decide +kernel
theorem dX6_cheats_22 : decode cX6_cheats 22 = .ok (.iaload, 1) := by decide +kernel
theorem dX6_cheats_23 : decode cX6_cheats 23 = .ok (.if_icmp .ge 35, 3) := by decide +kernel
theorem dX6_cheats_26 : decode cX6_cheats 26 = .ok (.iload_n 1, 1) := by decide +kernel
theorem dX6_cheats_27 : decode cX6_cheats 27 = .ok (.aload_n 0, 1) := by decide +kernel
theorem dX6_cheats_28 : decode cX6_cheats 28 = .ok (.iload_n 2, 1) := by decide +kernel
theorem dX6_cheats_29 : decode cX6_cheats 29 = .ok (.invokevirtual 172, 3) := by decide +kernel
theorem dX6_cheats_32 : decode cX6_cheats 32 = .ok (.aload_n 0, 1) := by decide +kernel
theorem dX6_cheats_33 : decode cX6_cheats 33 = .ok (.getfield 7, 3) := by decide +kernel
theorem dX6_cheats_36 : decode cX6_cheats 36 = .ok (.iload_n 2, 1) := by decide +kernel
theorem dX6_cheats_37 : decode cX6_cheats 37 = .ok (.invokestatic 155, 3) := by decide +kernel
theorem dX6_cheats_40 : decode cX6_cheats 40 = .ok (.if_icmp .ge 9, 3) := by decide +kernel
theorem dX6_cheats_43 : decode cX6_cheats 43 = .ok (.iconst 1, 1) := by decide +kernel
theorem dX6_cheats_44 : decode cX6_cheats 44 = .ok (.iload_n 2, 1) := by decide +kernel
theorem dX6_cheats_45 : decode cX6_cheats 45 = .ok (.ishl, 1) := by decide +kernel
theorem dX6_cheats_46 : decode cX6_cheats 46 = .ok (.goto 4, 3) := by decide +kernel
theorem dX6_cheats_49 : decode cX6_cheats 49 = .ok (.iconst 0, 1) := by decide +kernel
theorem dX6_cheats_50 : decode cX6_cheats 50 = .ok (.ior, 1) := by decide +kernel
theorem dX6_cheats_51 : decode cX6_cheats 51 = .ok (.istore_n 1, 1) := by decide +kernel
theorem dX6_cheats_52 : decode cX6_cheats 52 = .ok (.iinc 2 1, 3) := by decide +kernel
theorem dX6_cheats_55 : decode cX6_cheats 55 = .ok (.goto (-39), 3) := by decide +kernel
theorem dX6_cheats_58 : decode cX6_cheats 58 = .ok (.iload_n 1, 1) := by decide +kernel
theorem dX6_cheats_59 : decode cX6_cheats 59 = .ok (.ireturn, 1) := by decide +kernel
theorem dX6_walk_0 : decode cX6_walk 0 = .ok (.aload_n 0, 1) := by decide +kernel
theorem dX6_walk_1 : decode cX6_walk 1 = .ok (.iload_n 1, 1) := by decide +kernel
theorem dX6_walk_2 : decode cX6_walk 2 = .ok (.invokevirtual 148, 3) := by decide +kernel
theorem dX6_walk_5 : decode cX6_walk 5 = .ok (.ifCond .eq 16, 3) := by decide +kernel
theorem dX6_walk_8 : decode cX6_walk 8 = .ok (.aload_n 0, 1) := by decide +kernel
theorem dX6_walk_9 : decode cX6_walk 9 = .ok (.iload_n 2, 1) := by decide +kernel
theorem dX6_walk_10 : decode cX6_walk 10 = .ok (.invokevirtual 148, 3) := by decide +kernel
theorem dX6_walk_13 : decode cX6_walk 13 = .ok (.ifCond .eq 8, 3) := by decide +kernel
theorem dX6_walk_16 : decode cX6_walk 16 = .ok (.iload_n 1, 1) := by decide +kernel
theorem dX6_walk_17 : decode cX6_walk 17 = .ok (.iload_n 2, 1) := by decide +kernel
theorem dX6_walk_18 : decode cX6_walk 18 = .ok (.if_icmp .le 6, 3) := by decide +kernel
theorem dX6_walk_21 : decode cX6_walk 21 = .ok (.ldc 64, 2) := by decide +kernel
theorem dX6_walk_23 : decode cX6_walk 23 = .ok (.ireturn, 1) := by decide +kernel
theorem dX6_walk_24 : decode cX6_walk 24 = .ok (.ldc 204, 2) := by decide +kernel
theorem dX6_walk_26 : decode cX6_walk 26 = .ok (.istore_n 3, 1) := by decide +kernel
theorem dX6_walk_27 : decode cX6_walk 27 = .ok (.bipush 10, 2) := by decide +kernel
theorem dX6_walk_29 : decode cX6_walk 29 = .ok (.istore 4, 2) := by decide +kernel
theorem dX6_walk_31 : decode cX6_walk 31 = .ok (.iload_n 1, 1) := by decide +kernel
theorem dX6_walk_32 : decode cX6_walk 32 = .ok (.istore 5, 2) := by decide +kernel
theorem dX6_walk_34 : decode cX6_walk 34 = .ok (.iload 5, 2) := by decide +kernel
theorem dX6_walk_36 : decode cX6_walk 36 = .ok (.iload_n 2, 1) := by decide +kernel
theorem dX6_walk_37 : decode cX6_walk 37 = .ok (.if_icmp .gt 44, 3) := by decide +kernel
theorem dX6_walk_40 : decode cX6_walk 40 = .ok (.aload_n 0, 1) := by decide +kernel
theorem dX6_walk_41 : decode cX6_walk 41 = .ok (.getfield 7, 3) := by decide +kernel
theorem dX6_walk_44 : decode cX6_walk 44 = .ok (.bipush 18, 2) := by decide +kernel
theorem dX6_walk_46 : decode cX6_walk 46 = .ok (.iload 5, 2) := by decide +kernel
theorem dX6_walk_48 : decode cX6_walk 48 = .ok (.iadd, 1) := by decide +kernel
theorem dX6_walk_49 : decode cX6_walk 49 = .ok (.iaload, 1) := by decide +kernel
theorem dX6_walk_50 : decode cX6_walk 50 = .ok (.ifCond .ne 25, 3) := by decide +kernel
theorem dX6_walk_53 : decode cX6_walk 53 = .ok (.aload_n 0, 1) := by decide +kernel
theorem dX6_walk_54 : decode cX6_walk 54 = .ok (.iload 5, 2) := by decide +kernel
theorem dX6_walk_56 : decode cX6_walk 56 = .ok (.invokevirtual 172, 3) := by decide +kernel
theorem dX6_walk_59 : decode cX6_walk 59 = .ok (.iload 4, 2) := by decide +kernel
theorem dX6_walk_61 : decode cX6_walk 61 = .ok (.if_icmp .ge 14, 3) := by decide +kernel
theorem dX6_walk_64 : decode cX6_walk 64 = .ok (.iload 5, 2) := by decide +kernel
theorem dX6_walk_66 : decode cX6_walk 66 = .ok (.istore_n 3, 1) := by decide +kernel
theorem dX6_walk_67 : decode cX6_walk 67 = .ok (.aload_n 0, 1) := by decide +kernel
theorem dX6_walk_68 : decode cX6_walk 68 = .ok (.iload 5, 2) := by decide +kernel
theorem dX6_walk_70 : decode cX6_walk 70 = .ok (.invokevirtual 172, 3) := by decide +kernel
theorem dX6_walk_73 : decode cX6_walk 73 = .ok (.istore 4, 2) := by decide +kernel
theorem dX6_walk_75 : decode cX6_walk 75 = .ok (.iinc 5 1, 3) := by decide +kernel
theorem dX6_walk_78 : decode cX6_walk 78 = .ok (.goto (-44), 3) := by decide +kernel
theorem dX6_walk_81 : decode cX6_walk 81 = .ok (.iload_n 3, 1) := by decide +kernel
theorem dX6_walk_82 : decode cX6_walk 82 = .ok (.ireturn, 1) := by decide +kernel
abbrev soM (kd k : Nat) : Prop := k = 0 ∨ k = kd ∨ (k = 4 ∧ kd = 5) ∨ (kd < 4 ∧ k < kd)
theorem soM_bit : ∀ kd : Fin 6, 1 ≤ kd.val → ∀ k : Fin 6, (bitI (tb0.getD kd.val 0) (nI k.val) = 0 ↔ ¬ soM kd.val k.val) := by decide
def cP (f : Nat → Int32) : Nat → Nat
  | 0 => 0
  | k + 1 => if 0 < f k then cP f k + 1 else cP f k
def cS (f : Nat → Int32) : Nat → Nat
  | 0 => 0
  | k + 1 => if f k < 0 then cS f k else cS f k + 1
theorem cP_le (f : Nat → Int32) : ∀ k, cP f k ≤ k
  | 0 => Nat.le_refl 0
  | k + 1 => by unfold cP; have := cP_le f k; split <;> omega
theorem cS_le (f : Nat → Int32) : ∀ k, cS f k ≤ k
  | 0 => Nat.le_refl 0
  | k + 1 => by unfold cS; have := cS_le f k; split <;> omega
section M6
variable {G : GG} {z : Nat} {σ : AH} {a0 a1 a2 a3 a4 a5 a6 a7 a8 a9 a10 a11 : Nat → Int32} {i0 i1 i2 i3 i4 i5 i6 i7 i8 i9 i10 i11 : Int32} {d : TS}
theorem m_person_bad {n : Nat} (h0 : a0 2 = nI n) (hn : n ≤ 7) (p w : Int32) (h : ¬ npI p n = 0) : Ct G yX6_person_ cX6_person_ 4 (some .int) 5 0 0 z (mH σ a0 a1 a2 a3 a4 a5 a6 a7 a8 a9 a10 a11 i0 i1 i2 i3 i4 i5 i6 i7 i8 i9 i10 i11) [.ref 171, .int p, .int w] (some (.int (-1000001))) z (mH σ a0 a1 a2 a3 a4 a5 a6 a7 a8 a9 a10 a11 i0 i1 i2 i3 i4 i5 i6 i7 i8 i9 i10 i11) := by
  refine Ct.ofJ RX6 rfl [some (.ref 171), some (.int p), some (.int w), none] rfl (by decide) (by simp [Value.category]) ?_
  refine j_aload_n dX6_person__0 rfl rfl ?_
  refine j_iload_n dX6_person__1 rfl rfl ?_
  refine j_callV (m_one h0 hn p) dX6_person__2 rfl mv_X6_148 mH_o rfl ⟨(Nat.le_of_ble_eq_true rfl), (Nat.le_of_ble_eq_true rfl)⟩ ⟨(Nat.le_of_ble_eq_true rfl), (Nat.le_of_ble_eq_true rfl)⟩ (Nat.le_of_ble_eq_true rfl) ?_
  refine j_top (nI 0) (if_neg h) ?_
  refine j_if_eq 41 dX6_person__5 (by decide) (fun _ => ?_) (fun h => absurd rfl h)
  refine j_ldc (-1000001) dX6_person__41 kc_X6_64 ?_
  exact j_iret rfl dX6_person__43 rfl rfl (Nat.le_of_ble_eq_true rfl) (Nat.le_of_ble_eq_true rfl)
theorem m_as_bad {n : Nat} (h0 : a0 2 = nI n) (hn : n ≤ 7) (p k : Int32) (h : ¬ npI p n = 0 ∨ k < 0 ∨ ¬ k < nI 6) : Ct G yX6_as cX6_as 5 (some .int) 5 0 0 z (mH σ a0 a1 a2 a3 a4 a5 a6 a7 a8 a9 a10 a11 i0 i1 i2 i3 i4 i5 i6 i7 i8 i9 i10 i11) [.ref 171, .int p, .int k] (some (.int (-1000001))) z (mH σ a0 a1 a2 a3 a4 a5 a6 a7 a8 a9 a10 a11 i0 i1 i2 i3 i4 i5 i6 i7 i8 i9 i10 i11) := by
  refine Ct.ofJ RX6 rfl [some (.ref 171), some (.int p), some (.int k), none, none] rfl (by decide) (by simp [Value.category]) ?_
  refine j_aload_n dX6_as_0 rfl rfl ?_
  refine j_iload_n dX6_as_1 rfl rfl ?_
  refine j_callV (m_one h0 hn p) dX6_as_2 rfl mv_X6_148 mH_o rfl ⟨(Nat.le_of_ble_eq_true rfl), (Nat.le_of_ble_eq_true rfl)⟩ ⟨(Nat.le_of_ble_eq_true rfl), (Nat.le_of_ble_eq_true rfl)⟩ (Nat.le_of_ble_eq_true rfl) ?_
  refine j_if_eq 20 dX6_as_5 (by decide) (fun b5 => ?_) (fun b5 => ?_)
  · refine j_ldc (-1000001) dX6_as_20 kc_X6_64 ?_
    exact j_iret rfl dX6_as_22 rfl rfl (Nat.le_of_ble_eq_true rfl) (Nat.le_of_ble_eq_true rfl)
  · refine j_iload_n dX6_as_8 rfl rfl ?_
    refine j_i2l dX6_as_9 ?_
    refine j_lconst (0) dX6_as_10 rfl ?_
    refine j_ldc2 (5) dX6_as_11 kl_X6_208 ?_
    refine j_callS (m_in3 k (nI 0) (nI 5) rfl rfl) dX6_as_14 rfl ms_X6_54 ⟨(Nat.le_of_ble_eq_true rfl), (Nat.le_of_ble_eq_true rfl)⟩ ⟨(Nat.le_of_ble_eq_true rfl), (Nat.le_of_ble_eq_true rfl)⟩ (Nat.le_of_ble_eq_true rfl) ?_
    refine j_if_ne 23 dX6_as_17 (by decide) (fun b17 => ?_) (fun b17 => ?_)
    · exact absurd h (fun q => q.elim (fun w => w (oneI_ne b5)) (fun w => w.elim (inI_ne b17).1 (fun u => u (Int32.lt_of_le_of_lt (inI_ne b17).2 (by decide)))))
    · refine j_ldc (-1000001) dX6_as_20 kc_X6_64 ?_
      exact j_iret rfl dX6_as_22 rfl rfl (Nat.le_of_ble_eq_true rfl) (Nat.le_of_ble_eq_true rfl)
theorem m_walk_bad {n : Nat} (h0 : a0 2 = nI n) (hn : n ≤ 7) (a b : Int32) (h : ¬ npI a n = 0 ∨ ¬ npI b n = 0 ∨ b < a) : Ct G yX6_walk cX6_walk 6 (some .int) 5 0 0 z (mH σ a0 a1 a2 a3 a4 a5 a6 a7 a8 a9 a10 a11 i0 i1 i2 i3 i4 i5 i6 i7 i8 i9 i10 i11) [.ref 171, .int a, .int b] (some (.int (-1000001))) z (mH σ a0 a1 a2 a3 a4 a5 a6 a7 a8 a9 a10 a11 i0 i1 i2 i3 i4 i5 i6 i7 i8 i9 i10 i11) := by
  refine Ct.ofJ RX6 rfl [some (.ref 171), some (.int a), some (.int b), none, none, none] rfl (by decide) (by simp [Value.category]) ?_
  refine j_aload_n dX6_walk_0 rfl rfl ?_
  refine j_iload_n dX6_walk_1 rfl rfl ?_
  refine j_callV (m_one h0 hn a) dX6_walk_2 rfl mv_X6_148 mH_o rfl ⟨(Nat.le_of_ble_eq_true rfl), (Nat.le_of_ble_eq_true rfl)⟩ ⟨(Nat.le_of_ble_eq_true rfl), (Nat.le_of_ble_eq_true rfl)⟩ (Nat.le_of_ble_eq_true rfl) ?_
  refine j_if_eq 21 dX6_walk_5 (by decide) (fun b5 => ?_) (fun b5 => ?_)
  · refine j_ldc (-1000001) dX6_walk_21 kc_X6_64 ?_
    exact j_iret rfl dX6_walk_23 rfl rfl (Nat.le_of_ble_eq_true rfl) (Nat.le_of_ble_eq_true rfl)
  · refine j_aload_n dX6_walk_8 rfl rfl ?_
    refine j_iload_n dX6_walk_9 rfl rfl ?_
    refine j_callV (m_one h0 hn b) dX6_walk_10 rfl mv_X6_148 mH_o rfl ⟨(Nat.le_of_ble_eq_true rfl), (Nat.le_of_ble_eq_true rfl)⟩ ⟨(Nat.le_of_ble_eq_true rfl), (Nat.le_of_ble_eq_true rfl)⟩ (Nat.le_of_ble_eq_true rfl) ?_
    refine j_if_eq 21 dX6_walk_13 (by decide) (fun b13 => ?_) (fun b13 => ?_)
    · refine j_ldc (-1000001) dX6_walk_21 kc_X6_64 ?_
      exact j_iret rfl dX6_walk_23 rfl rfl (Nat.le_of_ble_eq_true rfl) (Nat.le_of_ble_eq_true rfl)
    · refine j_iload_n dX6_walk_16 rfl rfl ?_
      refine j_iload_n dX6_walk_17 rfl rfl ?_
      refine j_icmp_le 24 dX6_walk_18 (by decide) (fun b18 => ?_) (fun b18 => ?_)
      · exact absurd h (fun q => q.elim (fun w => w (oneI_ne b5)) (fun w => w.elim (fun u => u (oneI_ne b13)) (fun u => absurd b18 (Int32.not_le.mpr u))))
      · refine j_ldc (-1000001) dX6_walk_21 kc_X6_64 ?_
        exact j_iret rfl dX6_walk_23 rfl rfl (Nat.le_of_ble_eq_true rfl) (Nat.le_of_ble_eq_true rfl)
theorem m_cheats_state (h : a0 0 = nI 0) : Ct G yX6_cheats cX6_cheats 3 (some .int) 5 0 0 z (mH σ a0 a1 a2 a3 a4 a5 a6 a7 a8 a9 a10 a11 i0 i1 i2 i3 i4 i5 i6 i7 i8 i9 i10 i11) [.ref 171] (some (.int (-1000002))) z (mH σ a0 a1 a2 a3 a4 a5 a6 a7 a8 a9 a10 a11 i0 i1 i2 i3 i4 i5 i6 i7 i8 i9 i10 i11) := by
  refine Ct.ofJ RX6 rfl [some (.ref 171), none, none] rfl (by decide) (by simp [Value.category]) ?_
  refine j_aload_n dX6_cheats_0 rfl rfl ?_
  refine j_getf dX6_cheats_1 6 0 rfl (Nat.le_of_ble_eq_true rfl) fl_X6_7 in_6 mH_o rfl ?_
  refine j_iconst (nI 0) dX6_cheats_4 rfl ?_
  refine j_iald dX6_cheats_5 mH_a0 rfl (by omega) (by decide) ?_
  refine j_top (nI 0) h ?_
  refine j_if_ne 12 dX6_cheats_6 (by decide) (fun h => absurd rfl h) (fun _ => ?_)
  refine j_ldc (-1000002) dX6_cheats_9 kc_X6_163 ?_
  exact j_iret rfl dX6_cheats_11 rfl rfl (Nat.le_of_ble_eq_true rfl) (Nat.le_of_ble_eq_true rfl)
theorem m_count_bad (w : Int32) (h : w.toInt < 0 ∨ 6 < w.toInt) : Ct G yX6_count cX6_count 6 (some .int) 3 0 0 z (mH σ a0 a1 a2 a3 a4 a5 a6 a7 a8 a9 a10 a11 i0 i1 i2 i3 i4 i5 i6 i7 i8 i9 i10 i11) [.ref 171, .int w] (some (.int (-1000001))) z (mH σ a0 a1 a2 a3 a4 a5 a6 a7 a8 a9 a10 a11 i0 i1 i2 i3 i4 i5 i6 i7 i8 i9 i10 i11) := by
  refine Ct.ofJ RX6 rfl [some (.ref 171), some (.int w), none, none, none, none] rfl (by decide) (by simp [Value.category]) ?_
  refine j_iload_n dX6_count_0 rfl rfl ?_
  refine j_i2l dX6_count_1 ?_
  refine j_lconst (0) dX6_count_2 rfl ?_
  refine j_ldc2 (6) dX6_count_3 kl_X6_191 ?_
  refine j_callS (m_in3 w (nI 0) (nI 6) rfl rfl) dX6_count_6 rfl ms_X6_54 ⟨(Nat.le_of_ble_eq_true rfl), (Nat.le_of_ble_eq_true rfl)⟩ ⟨(Nat.le_of_ble_eq_true rfl), (Nat.le_of_ble_eq_true rfl)⟩ (Nat.le_of_ble_eq_true rfl) ?_
  refine j_top (nI 0) (inI_no (h.elim (fun q => Or.inl (Int32.lt_iff_toInt_lt.mpr q)) (fun q => Or.inr (Int32.lt_iff_toInt_lt.mpr q)))) ?_
  refine j_if_ne 15 dX6_count_9 (by decide) (fun h => absurd rfl h) (fun _ => ?_)
  refine j_ldc (-1000001) dX6_count_12 kc_X6_64 ?_
  exact j_iret rfl dX6_count_14 rfl rfl (Nat.le_of_ble_eq_true rfl) (Nat.le_of_ble_eq_true rfl)
def cntM (n : Nat) (a0 a5 : Nat → Int32) (i0 i3 : Int32) (w : Nat) : Int32 := if w = 0 then nI (cS a5 8) else if w = 1 then nI n else if w = 2 then nI (cP (fun j => a0 (40 + j)) 49) else if w = 3 then a0 3 else if w = 4 then i0 else if w = 5 then sumR (fun p => a0 (4 + p)) n else i3
theorem m_count {n : Nat} (h0 : a0 2 = nI n) (hn : n ≤ 7) {w : Nat} (hw : w ≤ 6) : Ct G yX6_count cX6_count 6 (some .int) 3 0 0 z (mH σ a0 a1 a2 a3 a4 a5 a6 a7 a8 a9 a10 a11 i0 i1 i2 i3 i4 i5 i6 i7 i8 i9 i10 i11) [.ref 171, .int (nI w)] (some (.int (cntM n a0 a5 i0 i3 w))) z (mH σ a0 a1 a2 a3 a4 a5 a6 a7 a8 a9 a10 a11 i0 i1 i2 i3 i4 i5 i6 i7 i8 i9 i10 i11) := by
  refine Ct.ofJ RX6 rfl [some (.ref 171), some (.int (nI w)), none, none, none, none] rfl (by decide) (by simp [Value.category]) ?_
  have k3 : ∀ o : Option Value, J G RX6 cX6_count 6 (some .int) (TQ G 3 0 0 (some (.int (cntM n a0 a5 i0 i3 w))) z (mH σ a0 a1 a2 a3 a4 a5 a6 a7 a8 a9 a10 a11 i0 i1 i2 i3 i4 i5 i6 i7 i8 i9 i10 i11)) z (mH σ a0 a1 a2 a3 a4 a5 a6 a7 a8 a9 a10 a11 i0 i1 i2 i3 i4 i5 i6 i7 i8 i9 i10 i11) 0 0 124 [some (.ref 171), some (.int (nI w)), some (.int (nI (cS a5 8))), some (.int (nI (cP (fun j => a0 (40 + j)) 49))), some (.int (sumR (fun p => a0 (4 + p)) n)), o] [] := by
    intro o
    refine j_iload_n dX6_count_124 rfl rfl ?_
    refine j_if_ne 132 dX6_count_125 (by decide) (fun b125 => ?_) (fun b125 => ?_)
    · have w0 : w ≠ 0 := fun e => b125 (by rw [e]; rfl)
      refine j_iload_n dX6_count_132 rfl rfl ?_
      refine j_iconst (nI 1) dX6_count_133 rfl ?_
      refine j_icmp_neN 146 dX6_count_134 (by decide) (by omega) (by omega) (fun b134 => ?_) (fun b134 => ?_)
      · refine j_iload_n dX6_count_146 rfl rfl ?_
        refine j_iconst (nI 2) dX6_count_147 rfl ?_
        refine j_icmp_neN 155 dX6_count_148 (by decide) (by omega) (by omega) (fun b148 => ?_) (fun b148 => ?_)
        · refine j_iload_n dX6_count_155 rfl rfl ?_
          refine j_iconst (nI 3) dX6_count_156 rfl ?_
          refine j_icmp_neN 169 dX6_count_157 (by decide) (by omega) (by omega) (fun b157 => ?_) (fun b157 => ?_)
          · refine j_iload_n dX6_count_169 rfl rfl ?_
            refine j_iconst (nI 4) dX6_count_170 rfl ?_
            refine j_icmp_neN 181 dX6_count_171 (by decide) (by omega) (by omega) (fun b171 => ?_) (fun b171 => ?_)
            · refine j_iload_n dX6_count_181 rfl rfl ?_
              refine j_iconst (nI 5) dX6_count_182 rfl ?_
              refine j_icmp_neN 191 dX6_count_183 (by decide) (by omega) (by omega) (fun b183 => ?_) (fun b183 => ?_)
              · refine j_aload_n dX6_count_191 rfl rfl ?_
                refine j_getf dX6_count_192 6 12 rfl (Nat.le_of_ble_eq_true rfl) fl_X6_74 in_6 mH_o rfl ?_
                exact j_iret rfl dX6_count_195 (by unfold cntM; first | rfl | rw [if_neg w0, if_pos b134] | rw [if_neg w0, if_neg b134, if_pos b148] | rw [if_neg w0, if_neg b134, if_neg b148, if_pos b157] | rw [if_neg w0, if_neg b134, if_neg b148, if_neg b157, if_pos b171] | rw [if_neg w0, if_neg b134, if_neg b148, if_neg b157, if_neg b171, if_pos b183] | rw [if_neg w0, if_neg b134, if_neg b148, if_neg b157, if_neg b171, if_neg b183] | done) rfl (Nat.le_of_ble_eq_true rfl) (Nat.le_of_ble_eq_true rfl)
              · refine j_iload dX6_count_186 rfl ?_
                refine j_goto 195 dX6_count_188 (by decide) ?_
                exact j_iret rfl dX6_count_195 (by unfold cntM; first | rfl | rw [if_neg w0, if_pos b134] | rw [if_neg w0, if_neg b134, if_pos b148] | rw [if_neg w0, if_neg b134, if_neg b148, if_pos b157] | rw [if_neg w0, if_neg b134, if_neg b148, if_neg b157, if_pos b171] | rw [if_neg w0, if_neg b134, if_neg b148, if_neg b157, if_neg b171, if_pos b183] | rw [if_neg w0, if_neg b134, if_neg b148, if_neg b157, if_neg b171, if_neg b183] | done) rfl (Nat.le_of_ble_eq_true rfl) (Nat.le_of_ble_eq_true rfl)
            · refine j_aload_n dX6_count_174 rfl rfl ?_
              refine j_getf dX6_count_175 6 5 rfl (Nat.le_of_ble_eq_true rfl) fl_X6_145 in_6 mH_o rfl ?_
              refine j_goto 195 dX6_count_178 (by decide) ?_
              exact j_iret rfl dX6_count_195 (by unfold cntM; first | rfl | rw [if_neg w0, if_pos b134] | rw [if_neg w0, if_neg b134, if_pos b148] | rw [if_neg w0, if_neg b134, if_neg b148, if_pos b157] | rw [if_neg w0, if_neg b134, if_neg b148, if_neg b157, if_pos b171] | rw [if_neg w0, if_neg b134, if_neg b148, if_neg b157, if_neg b171, if_pos b183] | rw [if_neg w0, if_neg b134, if_neg b148, if_neg b157, if_neg b171, if_neg b183] | done) rfl (Nat.le_of_ble_eq_true rfl) (Nat.le_of_ble_eq_true rfl)
          · refine j_aload_n dX6_count_160 rfl rfl ?_
            refine j_getf dX6_count_161 6 0 rfl (Nat.le_of_ble_eq_true rfl) fl_X6_7 in_6 mH_o rfl ?_
            refine j_iconst (nI 3) dX6_count_164 rfl ?_
            refine j_iald dX6_count_165 mH_a0 rfl (by omega) (by decide) ?_
            refine j_goto 195 dX6_count_166 (by decide) ?_
            exact j_iret rfl dX6_count_195 (by unfold cntM; first | rfl | rw [if_neg w0, if_pos b134] | rw [if_neg w0, if_neg b134, if_pos b148] | rw [if_neg w0, if_neg b134, if_neg b148, if_pos b157] | rw [if_neg w0, if_neg b134, if_neg b148, if_neg b157, if_pos b171] | rw [if_neg w0, if_neg b134, if_neg b148, if_neg b157, if_neg b171, if_pos b183] | rw [if_neg w0, if_neg b134, if_neg b148, if_neg b157, if_neg b171, if_neg b183] | done) rfl (Nat.le_of_ble_eq_true rfl) (Nat.le_of_ble_eq_true rfl)
        · refine j_iload_n dX6_count_151 rfl rfl ?_
          refine j_goto 195 dX6_count_152 (by decide) ?_
          exact j_iret rfl dX6_count_195 (by unfold cntM; first | rfl | rw [if_neg w0, if_pos b134] | rw [if_neg w0, if_neg b134, if_pos b148] | rw [if_neg w0, if_neg b134, if_neg b148, if_pos b157] | rw [if_neg w0, if_neg b134, if_neg b148, if_neg b157, if_pos b171] | rw [if_neg w0, if_neg b134, if_neg b148, if_neg b157, if_neg b171, if_pos b183] | rw [if_neg w0, if_neg b134, if_neg b148, if_neg b157, if_neg b171, if_neg b183] | done) rfl (Nat.le_of_ble_eq_true rfl) (Nat.le_of_ble_eq_true rfl)
      · refine j_aload_n dX6_count_137 rfl rfl ?_
        refine j_getf dX6_count_138 6 0 rfl (Nat.le_of_ble_eq_true rfl) fl_X6_7 in_6 mH_o rfl ?_
        refine j_iconst (nI 2) dX6_count_141 rfl ?_
        refine j_iald dX6_count_142 mH_a0 rfl (by omega) (by decide) ?_
        refine j_top (nI n) h0 ?_
        refine j_goto 195 dX6_count_143 (by decide) ?_
        exact j_iret rfl dX6_count_195 (by unfold cntM; first | rfl | rw [if_neg w0, if_pos b134] | rw [if_neg w0, if_neg b134, if_pos b148] | rw [if_neg w0, if_neg b134, if_neg b148, if_pos b157] | rw [if_neg w0, if_neg b134, if_neg b148, if_neg b157, if_pos b171] | rw [if_neg w0, if_neg b134, if_neg b148, if_neg b157, if_neg b171, if_pos b183] | rw [if_neg w0, if_neg b134, if_neg b148, if_neg b157, if_neg b171, if_neg b183] | done) rfl (Nat.le_of_ble_eq_true rfl) (Nat.le_of_ble_eq_true rfl)
    · obtain rfl : w = 0 := (nI_eq (b := 0) (by omega) (by omega)).mp b125
      refine j_iload_n dX6_count_128 rfl rfl ?_
      refine j_goto 195 dX6_count_129 (by decide) ?_
      exact j_iret rfl dX6_count_195 (by unfold cntM; first | rfl | rw [if_neg w0, if_pos b134] | rw [if_neg w0, if_neg b134, if_pos b148] | rw [if_neg w0, if_neg b134, if_neg b148, if_pos b157] | rw [if_neg w0, if_neg b134, if_neg b148, if_neg b157, if_pos b171] | rw [if_neg w0, if_neg b134, if_neg b148, if_neg b157, if_neg b171, if_pos b183] | rw [if_neg w0, if_neg b134, if_neg b148, if_neg b157, if_neg b171, if_neg b183] | done) rfl (Nat.le_of_ble_eq_true rfl) (Nat.le_of_ble_eq_true rfl)
  have k2 : ∀ (kk i : Nat), i ≤ n → n < i + kk → J G RX6 cX6_count 6 (some .int) (TQ G 3 0 0 (some (.int (cntM n a0 a5 i0 i3 w))) z (mH σ a0 a1 a2 a3 a4 a5 a6 a7 a8 a9 a10 a11 i0 i1 i2 i3 i4 i5 i6 i7 i8 i9 i10 i11)) z (mH σ a0 a1 a2 a3 a4 a5 a6 a7 a8 a9 a10 a11 i0 i1 i2 i3 i4 i5 i6 i7 i8 i9 i10 i11) 0 0 93 [some (.ref 171), some (.int (nI w)), some (.int (nI (cS a5 8))), some (.int (nI (cP (fun j => a0 (40 + j)) 49))), some (.int (sumR (fun p => a0 (4 + p)) i)), some (.int (nI i))] [] := by
    intro kk
    induction kk with
    | zero => intro i h1 h2; exact absurd h2 (by omega)
    | succ kk ih =>
      intro i h1 h2
      refine j_iload dX6_count_93 rfl ?_
      refine j_aload_n dX6_count_95 rfl rfl ?_
      refine j_getf dX6_count_96 6 0 rfl (Nat.le_of_ble_eq_true rfl) fl_X6_7 in_6 mH_o rfl ?_
      refine j_iconst (nI 2) dX6_count_99 rfl ?_
      refine j_iald dX6_count_100 mH_a0 (k := 2) rfl (by omega) (by decide) ?_
      refine j_top (nI n) h0 ?_
      refine j_icmp_geN 124 dX6_count_101 (by decide) (by omega) (by omega) (fun b101 => ?_) (fun b101 => ?_)
      · obtain rfl : i = n := by omega
        exact k3 _
      · refine j_iload dX6_count_104 rfl ?_
        refine j_aload_n dX6_count_106 rfl rfl ?_
        refine j_getf dX6_count_107 6 0 rfl (Nat.le_of_ble_eq_true rfl) fl_X6_7 in_6 mH_o rfl ?_
        refine j_iconst (nI 4) dX6_count_110 rfl ?_
        refine j_iload dX6_count_111 rfl ?_
        first | refine j_iaddN dX6_count_113 ?_ | refine j_iadd dX6_count_113 ?_
        refine j_iald dX6_count_114 mH_a0 rfl (by omega) (by decide) ?_
        refine j_iadd dX6_count_115 ?_
        refine j_istore dX6_count_116 (Nat.le_of_ble_eq_true rfl) rfl ?_
        first | refine j_iincN dX6_count_118 rfl (Nat.le_of_ble_eq_true rfl) rfl ?_ | refine j_iinc _ dX6_count_118 rfl rfl (Nat.le_of_ble_eq_true rfl) rfl ?_
        refine j_goto 93 dX6_count_121 (by decide) ?_
        exact ih (i + 1) (by omega) (by omega)
  have k1 : ∀ (kk i : Nat) (o : Option Value), i ≤ 49 → 49 < i + kk → J G RX6 cX6_count 6 (some .int) (TQ G 3 0 0 (some (.int (cntM n a0 a5 i0 i3 w))) z (mH σ a0 a1 a2 a3 a4 a5 a6 a7 a8 a9 a10 a11 i0 i1 i2 i3 i4 i5 i6 i7 i8 i9 i10 i11)) z (mH σ a0 a1 a2 a3 a4 a5 a6 a7 a8 a9 a10 a11 i0 i1 i2 i3 i4 i5 i6 i7 i8 i9 i10 i11) 0 0 53 [some (.ref 171), some (.int (nI w)), some (.int (nI (cS a5 8))), some (.int (nI (cP (fun j => a0 (40 + j)) i))), some (.int (nI i)), o] [] := by
    intro kk
    induction kk with
    | zero => intro i o h1 h2; exact absurd h2 (by omega)
    | succ kk ih =>
      intro i o h1 h2
      refine j_iload dX6_count_53 rfl ?_
      refine j_bipush (nI 49) dX6_count_55 rfl ?_
      refine j_icmp_geN 87 dX6_count_57 (by decide) (by omega) (by omega) (fun b57 => ?_) (fun b57 => ?_)
      · obtain rfl : i = 49 := by omega
        refine j_iconst (nI 0) dX6_count_87 rfl ?_
        refine j_istore dX6_count_88 (Nat.le_of_ble_eq_true rfl) rfl ?_
        refine j_iconst (nI 0) dX6_count_90 rfl ?_
        refine j_istore dX6_count_91 (Nat.le_of_ble_eq_true rfl) rfl ?_
        exact k2 (n + 1) 0 (by omega) (by omega)
      · refine j_iload_n dX6_count_60 rfl rfl ?_
        refine j_aload_n dX6_count_61 rfl rfl ?_
        refine j_getf dX6_count_62 6 0 rfl (Nat.le_of_ble_eq_true rfl) fl_X6_7 in_6 mH_o rfl ?_
        refine j_bipush (nI 40) dX6_count_65 rfl ?_
        refine j_iload dX6_count_67 rfl ?_
        first | refine j_iaddN dX6_count_69 ?_ | refine j_iadd dX6_count_69 ?_
        refine j_iald dX6_count_70 mH_a0 rfl (by omega) (by decide) ?_
        refine j_if_le 78 dX6_count_71 (by decide) (fun b71 => ?_) (fun b71 => ?_)
        · refine j_iconst (nI 0) dX6_count_78 rfl ?_
          first | refine j_iaddN dX6_count_79 ?_ | refine j_iadd dX6_count_79 ?_
          refine j_top (nI (cP (fun j => a0 (40 + j)) (i + 1))) (congrArg nI (by show _ = (if 0 < a0 (40 + i) then _ else _); first | rw [if_pos (Int32.not_le.mp b71)] | rw [if_neg (Int32.not_lt.mpr b71)]; rfl | done)) ?_
          refine j_istore_n dX6_count_80 rfl (Nat.le_of_ble_eq_true rfl) rfl ?_
          first | refine j_iincN dX6_count_81 rfl (Nat.le_of_ble_eq_true rfl) rfl ?_ | refine j_iinc _ dX6_count_81 rfl rfl (Nat.le_of_ble_eq_true rfl) rfl ?_
          refine j_goto 53 dX6_count_84 (by decide) ?_
          exact ih (i + 1) _ (by omega) (by omega)
        · refine j_iconst (nI 1) dX6_count_74 rfl ?_
          refine j_goto 79 dX6_count_75 (by decide) ?_
          first | refine j_iaddN dX6_count_79 ?_ | refine j_iadd dX6_count_79 ?_
          refine j_top (nI (cP (fun j => a0 (40 + j)) (i + 1))) (congrArg nI (by show _ = (if 0 < a0 (40 + i) then _ else _); first | rw [if_pos (Int32.not_le.mp b71)] | rw [if_neg (Int32.not_lt.mpr b71)]; rfl | done)) ?_
          refine j_istore_n dX6_count_80 rfl (Nat.le_of_ble_eq_true rfl) rfl ?_
          first | refine j_iincN dX6_count_81 rfl (Nat.le_of_ble_eq_true rfl) rfl ?_ | refine j_iinc _ dX6_count_81 rfl rfl (Nat.le_of_ble_eq_true rfl) rfl ?_
          refine j_goto 53 dX6_count_84 (by decide) ?_
          exact ih (i + 1) _ (by omega) (by omega)
  refine j_iload_n dX6_count_0 rfl rfl ?_
  refine j_i2l dX6_count_1 ?_
  refine j_lconst (0) dX6_count_2 rfl ?_
  refine j_ldc2 (6) dX6_count_3 kl_X6_191 ?_
  refine j_callS (m_in3 (nI w) (nI 0) (nI 6) rfl rfl) dX6_count_6 rfl ms_X6_54 ⟨(Nat.le_of_ble_eq_true rfl), (Nat.le_of_ble_eq_true rfl)⟩ ⟨(Nat.le_of_ble_eq_true rfl), (Nat.le_of_ble_eq_true rfl)⟩ (Nat.le_of_ble_eq_true rfl) ?_
  refine j_top (nI 1) (inI_N (by omega) (by omega) (by omega)) ?_
  refine j_if_ne 15 dX6_count_9 (by decide) (fun _ => ?_) (fun h => absurd h (by decide))
  refine j_iconst (nI 0) dX6_count_15 rfl ?_
  refine j_istore_n dX6_count_16 rfl (Nat.le_of_ble_eq_true rfl) rfl ?_
  refine j_iconst (nI 0) dX6_count_17 rfl ?_
  refine j_istore_n dX6_count_18 rfl (Nat.le_of_ble_eq_true rfl) rfl ?_
  skip
  suffices H : ∀ (kk i : Nat), i ≤ 8 → 8 < i + kk → J G RX6 cX6_count 6 (some .int) (TQ G 3 0 0 (some (.int (cntM n a0 a5 i0 i3 w))) z (mH σ a0 a1 a2 a3 a4 a5 a6 a7 a8 a9 a10 a11 i0 i1 i2 i3 i4 i5 i6 i7 i8 i9 i10 i11)) z (mH σ a0 a1 a2 a3 a4 a5 a6 a7 a8 a9 a10 a11 i0 i1 i2 i3 i4 i5 i6 i7 i8 i9 i10 i11) 0 0 19 [some (.ref 171), some (.int (nI w)), some (.int (nI (cS a5 i))), some (.int (nI i)), none, none] [] from H 9 0 (by omega) (by omega)
  intro kk
  induction kk with
  | zero => intro i h1 h2; exact absurd h2 (by omega)
  | succ kk ih =>
    intro i h1 h2
    refine j_iload_n dX6_count_19 rfl rfl ?_
    refine j_bipush (nI 8) dX6_count_20 rfl ?_
    refine j_icmp_geN 48 dX6_count_22 (by decide) (by omega) (by omega) (fun b22 => ?_) (fun b22 => ?_)
    · obtain rfl : i = 8 := by omega
      refine j_iconst (nI 0) dX6_count_48 rfl ?_
      refine j_istore_n dX6_count_49 rfl (Nat.le_of_ble_eq_true rfl) rfl ?_
      refine j_iconst (nI 0) dX6_count_50 rfl ?_
      refine j_istore dX6_count_51 (Nat.le_of_ble_eq_true rfl) rfl ?_
      exact k1 50 0 _ (by omega) (by omega)
    · refine j_iload_n dX6_count_25 rfl rfl ?_
      refine j_aload_n dX6_count_26 rfl rfl ?_
      refine j_getf dX6_count_27 6 8 rfl (Nat.le_of_ble_eq_true rfl) fl_X6_26 in_6 mH_o rfl ?_
      refine j_iload_n dX6_count_30 rfl rfl ?_
      refine j_iald dX6_count_31 mH_a5 rfl (by omega) (by decide) ?_
      refine j_if_ge 39 dX6_count_32 (by decide) (fun b32 => ?_) (fun b32 => ?_)
      · refine j_iconst (nI 1) dX6_count_39 rfl ?_
        first | refine j_iaddN dX6_count_40 ?_ | refine j_iadd dX6_count_40 ?_
        refine j_top (nI (cS a5 (i + 1))) (congrArg nI (by show _ = (if a5 i < 0 then _ else _); first | rw [if_pos (Int32.not_le.mp b32)]; rfl | rw [if_neg (Int32.not_lt.mpr b32)] | done)) ?_
        refine j_istore_n dX6_count_41 rfl (Nat.le_of_ble_eq_true rfl) rfl ?_
        first | refine j_iincN dX6_count_42 rfl (Nat.le_of_ble_eq_true rfl) rfl ?_ | refine j_iinc _ dX6_count_42 rfl rfl (Nat.le_of_ble_eq_true rfl) rfl ?_
        refine j_goto 19 dX6_count_45 (by decide) ?_
        exact ih (i + 1) (by omega) (by omega)
      · refine j_iconst (nI 0) dX6_count_35 rfl ?_
        refine j_goto 40 dX6_count_36 (by decide) ?_
        first | refine j_iaddN dX6_count_40 ?_ | refine j_iadd dX6_count_40 ?_
        refine j_top (nI (cS a5 (i + 1))) (congrArg nI (by show _ = (if a5 i < 0 then _ else _); first | rw [if_pos (Int32.not_le.mp b32)]; rfl | rw [if_neg (Int32.not_lt.mpr b32)] | done)) ?_
        refine j_istore_n dX6_count_41 rfl (Nat.le_of_ble_eq_true rfl) rfl ?_
        first | refine j_iincN dX6_count_42 rfl (Nat.le_of_ble_eq_true rfl) rfl ?_ | refine j_iinc _ dX6_count_42 rfl rfl (Nat.le_of_ble_eq_true rfl) rfl ?_
        refine j_goto 19 dX6_count_45 (by decide) ?_
        exact ih (i + 1) (by omega) (by omega)
end M6
section M7
variable {G : GG} {z : Nat} {σ : AH} {a0 a1 a2 a3 a4 a5 a6 a7 a8 a9 a10 a11 : Nat → Int32} {i0 i1 i2 i3 i4 i5 i6 i7 i8 i9 i10 i11 : Int32} {d : TS} {p : Nat}
theorem m_person_debt (hN : sN d ≤ 7) (hp : p < sN d) {q : Nat} (hq : q < sN d) : Ct G yX6_person_ cX6_person_ 4 (some .int) 5 0 0 z (mH σ (encT d) a1 a2 a3 a4 a5 a6 a7 a8 a9 a10 a11 i0 i1 i2 i3 i4 i5 i6 i7 i8 i9 i10 i11) [.ref 171, .int (nI p), .int (nI (10 + q))] (some (.int (sD d (p * 7 + q)))) z (mH σ (encT d) a1 a2 a3 a4 a5 a6 a7 a8 a9 a10 a11 i0 i1 i2 i3 i4 i5 i6 i7 i8 i9 i10 i11) := by
  refine Ct.ofJ RX6 rfl [some (.ref 171), some (.int (nI p)), some (.int (nI (10 + q))), none] rfl (by decide) (by simp [Value.category]) ?_
  refine j_aload_n dX6_person__0 rfl rfl ?_
  refine j_iload_n dX6_person__1 rfl rfl ?_
  refine j_callV (m_one enc_n hN _) dX6_person__2 rfl mv_X6_148 mH_o rfl ⟨(Nat.le_of_ble_eq_true rfl), (Nat.le_of_ble_eq_true rfl)⟩ ⟨(Nat.le_of_ble_eq_true rfl), (Nat.le_of_ble_eq_true rfl)⟩ (Nat.le_of_ble_eq_true rfl) ?_
  refine j_top (nI 1) (oneI_k hp hN) ?_
  refine j_if_eq 41 dX6_person__5 (by decide) (fun h => absurd h (by decide)) (fun _ => ?_)
  refine j_iload_n dX6_person__8 rfl rfl ?_
  refine j_i2l dX6_person__9 ?_
  refine j_lconst (0) dX6_person__10 rfl ?_
  refine j_ldc2 (7) dX6_person__11 kl_X6_52 ?_
  refine j_callS (m_in3 (nI (10 + q)) (nI 0) (nI 7) rfl rfl) dX6_person__14 rfl ms_X6_54 ⟨(Nat.le_of_ble_eq_true rfl), (Nat.le_of_ble_eq_true rfl)⟩ ⟨(Nat.le_of_ble_eq_true rfl), (Nat.le_of_ble_eq_true rfl)⟩ (Nat.le_of_ble_eq_true rfl) ?_
  refine j_top (nI 0) (inI_no (Or.inr (nI_lt (by omega) (by omega)))) ?_
  refine j_if_ne 44 dX6_person__17 (by decide) (fun h => absurd rfl h) (fun _ => ?_)
  refine j_iload_n dX6_person__20 rfl rfl ?_
  refine j_i2l dX6_person__21 ?_
  refine j_ldc2 (10) dX6_person__22 kl_X6_184 ?_
  refine j_bipush (nI 9) dX6_person__25 rfl ?_
  refine j_aload_n dX6_person__27 rfl rfl ?_
  refine j_getf dX6_person__28 6 0 rfl (Nat.le_of_ble_eq_true rfl) fl_X6_7 in_6 mH_o rfl ?_
  refine j_iconst (nI 2) dX6_person__31 rfl ?_
  refine j_iald dX6_person__32 mH_a0 (k := 2) rfl (by omega) (by decide) ?_
  refine j_top (nI (sN d)) rfl ?_
  first | refine j_iaddN dX6_person__33 ?_ | refine j_iadd dX6_person__33 ?_
  refine j_i2l dX6_person__34 ?_
  refine j_callS (m_in3 (nI (10 + q)) (nI 10) (nI (9 + sN d)) rfl rfl) dX6_person__35 rfl ms_X6_54 ⟨(Nat.le_of_ble_eq_true rfl), (Nat.le_of_ble_eq_true rfl)⟩ ⟨(Nat.le_of_ble_eq_true rfl), (Nat.le_of_ble_eq_true rfl)⟩ (Nat.le_of_ble_eq_true rfl) ?_
  refine j_top (nI 1) (inI_N (by omega) (by omega) (by omega)) ?_
  refine j_if_ne 44 dX6_person__38 (by decide) (fun _ => ?_) (fun h => absurd h (by decide))
  refine j_iload_n dX6_person__44 rfl rfl ?_
  refine j_bipush (nI 9) dX6_person__45 rfl ?_
  refine j_icmp_leN 68 dX6_person__47 (by decide) (by omega) (by omega) (fun b47 => by exfalso; omega) (fun b47 => ?_)
  refine j_aload_n dX6_person__50 rfl rfl ?_
  refine j_getf dX6_person__51 6 0 rfl (Nat.le_of_ble_eq_true rfl) fl_X6_7 in_6 mH_o rfl ?_
  refine j_bipush (nI 40) dX6_person__54 rfl ?_
  refine j_bipush (nI 7) dX6_person__56 rfl ?_
  refine j_iload_n dX6_person__58 rfl rfl ?_
  first | refine j_imulN dX6_person__59 ?_ | refine j_imul dX6_person__59 ?_
  first | refine j_iaddN dX6_person__60 ?_ | refine j_iadd dX6_person__60 ?_
  refine j_iload_n dX6_person__61 rfl rfl ?_
  first | refine j_iaddN dX6_person__62 ?_ | refine j_iadd dX6_person__62 ?_
  refine j_bipush (nI 10) dX6_person__63 rfl ?_
  refine j_isubN dX6_person__65 (by omega) ?_
  refine j_top (nI (40 + 7 * p + q)) (congrArg nI (by omega)) ?_
  refine j_iald dX6_person__66 mH_a0 rfl (by omega) (by decide) ?_
  refine j_top _ (enc_d hN hp hq) ?_
  exact j_iret rfl dX6_person__67 rfl rfl (Nat.le_of_ble_eq_true rfl) (Nat.le_of_ble_eq_true rfl)
theorem m_person_else (hN : sN d ≤ 7) (hp : p < sN d) (w : Int32) (h1 : w < nI 10 ∨ nI (10 + sN d) ≤ w) (h2 : w.toInt < 0 ∨ 7 < w.toInt) : Ct G yX6_person_ cX6_person_ 4 (some .int) 5 0 0 z (mH σ (encT d) a1 a2 a3 a4 a5 a6 a7 a8 a9 a10 a11 i0 i1 i2 i3 i4 i5 i6 i7 i8 i9 i10 i11) [.ref 171, .int (nI p), .int w] (some (.int (-1000001))) z (mH σ (encT d) a1 a2 a3 a4 a5 a6 a7 a8 a9 a10 a11 i0 i1 i2 i3 i4 i5 i6 i7 i8 i9 i10 i11) := by
  refine Ct.ofJ RX6 rfl [some (.ref 171), some (.int (nI p)), some (.int w), none] rfl (by decide) (by simp [Value.category]) ?_
  refine j_aload_n dX6_person__0 rfl rfl ?_
  refine j_iload_n dX6_person__1 rfl rfl ?_
  refine j_callV (m_one enc_n hN _) dX6_person__2 rfl mv_X6_148 mH_o rfl ⟨(Nat.le_of_ble_eq_true rfl), (Nat.le_of_ble_eq_true rfl)⟩ ⟨(Nat.le_of_ble_eq_true rfl), (Nat.le_of_ble_eq_true rfl)⟩ (Nat.le_of_ble_eq_true rfl) ?_
  refine j_top (nI 1) (oneI_k hp hN) ?_
  refine j_if_eq 41 dX6_person__5 (by decide) (fun h => absurd h (by decide)) (fun _ => ?_)
  refine j_iload_n dX6_person__8 rfl rfl ?_
  refine j_i2l dX6_person__9 ?_
  refine j_lconst (0) dX6_person__10 rfl ?_
  refine j_ldc2 (7) dX6_person__11 kl_X6_52 ?_
  refine j_callS (m_in3 w (nI 0) (nI 7) rfl rfl) dX6_person__14 rfl ms_X6_54 ⟨(Nat.le_of_ble_eq_true rfl), (Nat.le_of_ble_eq_true rfl)⟩ ⟨(Nat.le_of_ble_eq_true rfl), (Nat.le_of_ble_eq_true rfl)⟩ (Nat.le_of_ble_eq_true rfl) ?_
  refine j_top (nI 0) (inI_no (h2.elim (fun q => Or.inl (Int32.lt_iff_toInt_lt.mpr q)) (fun q => Or.inr (Int32.lt_iff_toInt_lt.mpr q)))) ?_
  refine j_if_ne 44 dX6_person__17 (by decide) (fun h => absurd rfl h) (fun _ => ?_)
  refine j_iload_n dX6_person__20 rfl rfl ?_
  refine j_i2l dX6_person__21 ?_
  refine j_ldc2 (10) dX6_person__22 kl_X6_184 ?_
  refine j_bipush (nI 9) dX6_person__25 rfl ?_
  refine j_aload_n dX6_person__27 rfl rfl ?_
  refine j_getf dX6_person__28 6 0 rfl (Nat.le_of_ble_eq_true rfl) fl_X6_7 in_6 mH_o rfl ?_
  refine j_iconst (nI 2) dX6_person__31 rfl ?_
  refine j_iald dX6_person__32 mH_a0 (k := 2) rfl (by omega) (by decide) ?_
  refine j_top (nI (sN d)) rfl ?_
  first | refine j_iaddN dX6_person__33 ?_ | refine j_iadd dX6_person__33 ?_
  refine j_i2l dX6_person__34 ?_
  refine j_callS (m_in3 w (nI 10) (nI (9 + sN d)) rfl rfl) dX6_person__35 rfl ms_X6_54 ⟨(Nat.le_of_ble_eq_true rfl), (Nat.le_of_ble_eq_true rfl)⟩ ⟨(Nat.le_of_ble_eq_true rfl), (Nat.le_of_ble_eq_true rfl)⟩ (Nat.le_of_ble_eq_true rfl) ?_
  refine j_top (nI 0) (inI_no (h1.elim Or.inl (fun q => Or.inr (Int32.lt_of_lt_of_le (nI_lt (by omega) (by omega)) q)))) ?_
  refine j_if_ne 44 dX6_person__38 (by decide) (fun h => absurd rfl h) (fun _ => ?_)
  refine j_ldc (-1000001) dX6_person__41 kc_X6_64 ?_
  exact j_iret rfl dX6_person__43 rfl rfl (Nat.le_of_ble_eq_true rfl) (Nat.le_of_ble_eq_true rfl)
theorem m_person_0 (hN : sN d ≤ 7) (hp : p < sN d) : Ct G yX6_person_ cX6_person_ 4 (some .int) 5 0 0 z (mH σ (encT d) a1 a2 a3 a4 a5 a6 a7 a8 a9 a10 a11 i0 i1 i2 i3 i4 i5 i6 i7 i8 i9 i10 i11) [.ref 171, .int (nI p), .int (nI 0)] (some (.int (sC d p))) z (mH σ (encT d) a1 a2 a3 a4 a5 a6 a7 a8 a9 a10 a11 i0 i1 i2 i3 i4 i5 i6 i7 i8 i9 i10 i11) := by
  refine Ct.ofJ RX6 rfl [some (.ref 171), some (.int (nI p)), some (.int (nI 0)), none] rfl (by decide) (by simp [Value.category]) ?_
  refine j_aload_n dX6_person__0 rfl rfl ?_
  refine j_iload_n dX6_person__1 rfl rfl ?_
  refine j_callV (m_one enc_n hN _) dX6_person__2 rfl mv_X6_148 mH_o rfl ⟨(Nat.le_of_ble_eq_true rfl), (Nat.le_of_ble_eq_true rfl)⟩ ⟨(Nat.le_of_ble_eq_true rfl), (Nat.le_of_ble_eq_true rfl)⟩ (Nat.le_of_ble_eq_true rfl) ?_
  refine j_top (nI 1) (oneI_k hp hN) ?_
  refine j_if_eq 41 dX6_person__5 (by decide) (fun h => absurd h (by decide)) (fun _ => ?_)
  refine j_iload_n dX6_person__8 rfl rfl ?_
  refine j_i2l dX6_person__9 ?_
  refine j_lconst (0) dX6_person__10 rfl ?_
  refine j_ldc2 (7) dX6_person__11 kl_X6_52 ?_
  refine j_callS (m_in3 (nI 0) (nI 0) (nI 7) rfl rfl) dX6_person__14 rfl ms_X6_54 ⟨(Nat.le_of_ble_eq_true rfl), (Nat.le_of_ble_eq_true rfl)⟩ ⟨(Nat.le_of_ble_eq_true rfl), (Nat.le_of_ble_eq_true rfl)⟩ (Nat.le_of_ble_eq_true rfl) ?_
  refine j_top (nI 1) (inI_N (by omega) (by omega) (by omega)) ?_
  refine j_if_ne 44 dX6_person__17 (by decide) (fun _ => ?_) (fun h => absurd h (by decide))
  refine j_iload_n dX6_person__44 rfl rfl ?_
  refine j_bipush (nI 9) dX6_person__45 rfl ?_
  refine j_icmp_leN 68 dX6_person__47 (by decide) (by omega) (by omega) (fun b47 => ?_) (fun b47 => by exfalso; omega)
  refine j_iload_n dX6_person__68 rfl rfl ?_
  refine j_iconst (nI 4) dX6_person__69 rfl ?_
  refine j_icmp_neN 81 dX6_person__70 (by decide) (by omega) (by omega) (fun b70 => ?_) (fun b70 => by exfalso; omega)
  refine j_iload_n dX6_person__81 rfl rfl ?_
  refine j_iconst (nI 5) dX6_person__82 rfl ?_
  refine j_icmp_neN 98 dX6_person__83 (by decide) (by omega) (by omega) (fun b83 => ?_) (fun b83 => by exfalso; omega)
  refine j_iload_n dX6_person__98 rfl rfl ?_
  refine j_bipush (nI 6) dX6_person__99 rfl ?_
  refine j_icmp_neN 116 dX6_person__101 (by decide) (by omega) (by omega) (fun b101 => ?_) (fun b101 => by exfalso; omega)
  refine j_aload_n dX6_person__116 rfl rfl ?_
  refine j_iload_n dX6_person__117 rfl rfl ?_
  refine j_callV (m_netOf hN hp) dX6_person__118 rfl mv_X6_186 mH_o rfl ⟨(Nat.le_of_ble_eq_true rfl), (Nat.le_of_ble_eq_true rfl)⟩ ⟨(Nat.le_of_ble_eq_true rfl), (Nat.le_of_ble_eq_true rfl)⟩ (Nat.le_of_ble_eq_true rfl) ?_
  refine j_istore_n dX6_person__121 rfl (Nat.le_of_ble_eq_true rfl) rfl ?_
  refine j_iload_n dX6_person__122 rfl rfl ?_
  refine j_top (nI 0) rfl ?_
  refine j_if_ne 137 dX6_person__123 (by decide) (fun h => absurd rfl h) (fun _ => ?_)
  refine j_aload_n dX6_person__126 rfl rfl ?_
  refine j_getf dX6_person__127 6 0 rfl (Nat.le_of_ble_eq_true rfl) fl_X6_7 in_6 mH_o rfl ?_
  refine j_iconst (nI 4) dX6_person__130 rfl ?_
  refine j_iload_n dX6_person__131 rfl rfl ?_
  first | refine j_iaddN dX6_person__132 ?_ | refine j_iadd dX6_person__132 ?_
  refine j_iald dX6_person__133 mH_a0 rfl (by omega) (by decide) ?_
  refine j_top _ (enc_c hN hp) ?_
  refine j_goto 187 dX6_person__134 (by decide) ?_
  exact j_iret rfl dX6_person__187 rfl rfl (Nat.le_of_ble_eq_true rfl) (Nat.le_of_ble_eq_true rfl)
theorem m_person_1 (hN : sN d ≤ 7) (hp : p < sN d) : Ct G yX6_person_ cX6_person_ 4 (some .int) 5 0 0 z (mH σ (encT d) a1 a2 a3 a4 a5 a6 a7 a8 a9 a10 a11 i0 i1 i2 i3 i4 i5 i6 i7 i8 i9 i10 i11) [.ref 171, .int (nI p), .int (nI 1)] (some (.int (sI d p))) z (mH σ (encT d) a1 a2 a3 a4 a5 a6 a7 a8 a9 a10 a11 i0 i1 i2 i3 i4 i5 i6 i7 i8 i9 i10 i11) := by
  refine Ct.ofJ RX6 rfl [some (.ref 171), some (.int (nI p)), some (.int (nI 1)), none] rfl (by decide) (by simp [Value.category]) ?_
  refine j_aload_n dX6_person__0 rfl rfl ?_
  refine j_iload_n dX6_person__1 rfl rfl ?_
  refine j_callV (m_one enc_n hN _) dX6_person__2 rfl mv_X6_148 mH_o rfl ⟨(Nat.le_of_ble_eq_true rfl), (Nat.le_of_ble_eq_true rfl)⟩ ⟨(Nat.le_of_ble_eq_true rfl), (Nat.le_of_ble_eq_true rfl)⟩ (Nat.le_of_ble_eq_true rfl) ?_
  refine j_top (nI 1) (oneI_k hp hN) ?_
  refine j_if_eq 41 dX6_person__5 (by decide) (fun h => absurd h (by decide)) (fun _ => ?_)
  refine j_iload_n dX6_person__8 rfl rfl ?_
  refine j_i2l dX6_person__9 ?_
  refine j_lconst (0) dX6_person__10 rfl ?_
  refine j_ldc2 (7) dX6_person__11 kl_X6_52 ?_
  refine j_callS (m_in3 (nI 1) (nI 0) (nI 7) rfl rfl) dX6_person__14 rfl ms_X6_54 ⟨(Nat.le_of_ble_eq_true rfl), (Nat.le_of_ble_eq_true rfl)⟩ ⟨(Nat.le_of_ble_eq_true rfl), (Nat.le_of_ble_eq_true rfl)⟩ (Nat.le_of_ble_eq_true rfl) ?_
  refine j_top (nI 1) (inI_N (by omega) (by omega) (by omega)) ?_
  refine j_if_ne 44 dX6_person__17 (by decide) (fun _ => ?_) (fun h => absurd h (by decide))
  refine j_iload_n dX6_person__44 rfl rfl ?_
  refine j_bipush (nI 9) dX6_person__45 rfl ?_
  refine j_icmp_leN 68 dX6_person__47 (by decide) (by omega) (by omega) (fun b47 => ?_) (fun b47 => by exfalso; omega)
  refine j_iload_n dX6_person__68 rfl rfl ?_
  refine j_iconst (nI 4) dX6_person__69 rfl ?_
  refine j_icmp_neN 81 dX6_person__70 (by decide) (by omega) (by omega) (fun b70 => ?_) (fun b70 => by exfalso; omega)
  refine j_iload_n dX6_person__81 rfl rfl ?_
  refine j_iconst (nI 5) dX6_person__82 rfl ?_
  refine j_icmp_neN 98 dX6_person__83 (by decide) (by omega) (by omega) (fun b83 => ?_) (fun b83 => by exfalso; omega)
  refine j_iload_n dX6_person__98 rfl rfl ?_
  refine j_bipush (nI 6) dX6_person__99 rfl ?_
  refine j_icmp_neN 116 dX6_person__101 (by decide) (by omega) (by omega) (fun b101 => ?_) (fun b101 => by exfalso; omega)
  refine j_aload_n dX6_person__116 rfl rfl ?_
  refine j_iload_n dX6_person__117 rfl rfl ?_
  refine j_callV (m_netOf hN hp) dX6_person__118 rfl mv_X6_186 mH_o rfl ⟨(Nat.le_of_ble_eq_true rfl), (Nat.le_of_ble_eq_true rfl)⟩ ⟨(Nat.le_of_ble_eq_true rfl), (Nat.le_of_ble_eq_true rfl)⟩ (Nat.le_of_ble_eq_true rfl) ?_
  refine j_istore_n dX6_person__121 rfl (Nat.le_of_ble_eq_true rfl) rfl ?_
  refine j_iload_n dX6_person__122 rfl rfl ?_
  refine j_top (nI 1) rfl ?_
  refine j_if_ne 137 dX6_person__123 (by decide) (fun _ => ?_) (fun h => absurd h (by decide))
  refine j_iload_n dX6_person__137 rfl rfl ?_
  refine j_iconst (nI 1) dX6_person__138 rfl ?_
  refine j_icmp_neN 154 dX6_person__139 (by decide) (by omega) (by omega) (fun b139 => by exact absurd rfl b139) (fun b139 => ?_)
  refine j_aload_n dX6_person__142 rfl rfl ?_
  refine j_getf dX6_person__143 6 0 rfl (Nat.le_of_ble_eq_true rfl) fl_X6_7 in_6 mH_o rfl ?_
  refine j_bipush (nI 11) dX6_person__146 rfl ?_
  refine j_iload_n dX6_person__148 rfl rfl ?_
  first | refine j_iaddN dX6_person__149 ?_ | refine j_iadd dX6_person__149 ?_
  refine j_iald dX6_person__150 mH_a0 rfl (by omega) (by decide) ?_
  refine j_top _ (enc_i hN hp) ?_
  refine j_goto 187 dX6_person__151 (by decide) ?_
  exact j_iret rfl dX6_person__187 rfl rfl (Nat.le_of_ble_eq_true rfl) (Nat.le_of_ble_eq_true rfl)
theorem m_person_2 (hN : sN d ≤ 7) (hp : p < sN d) : Ct G yX6_person_ cX6_person_ 4 (some .int) 5 0 0 z (mH σ (encT d) a1 a2 a3 a4 a5 a6 a7 a8 a9 a10 a11 i0 i1 i2 i3 i4 i5 i6 i7 i8 i9 i10 i11) [.ref 171, .int (nI p), .int (nI 2)] (some (.int (dsum (sD d) (sN d) p))) z (mH σ (encT d) a1 a2 a3 a4 a5 a6 a7 a8 a9 a10 a11 i0 i1 i2 i3 i4 i5 i6 i7 i8 i9 i10 i11) := by
  refine Ct.ofJ RX6 rfl [some (.ref 171), some (.int (nI p)), some (.int (nI 2)), none] rfl (by decide) (by simp [Value.category]) ?_
  refine j_aload_n dX6_person__0 rfl rfl ?_
  refine j_iload_n dX6_person__1 rfl rfl ?_
  refine j_callV (m_one enc_n hN _) dX6_person__2 rfl mv_X6_148 mH_o rfl ⟨(Nat.le_of_ble_eq_true rfl), (Nat.le_of_ble_eq_true rfl)⟩ ⟨(Nat.le_of_ble_eq_true rfl), (Nat.le_of_ble_eq_true rfl)⟩ (Nat.le_of_ble_eq_true rfl) ?_
  refine j_top (nI 1) (oneI_k hp hN) ?_
  refine j_if_eq 41 dX6_person__5 (by decide) (fun h => absurd h (by decide)) (fun _ => ?_)
  refine j_iload_n dX6_person__8 rfl rfl ?_
  refine j_i2l dX6_person__9 ?_
  refine j_lconst (0) dX6_person__10 rfl ?_
  refine j_ldc2 (7) dX6_person__11 kl_X6_52 ?_
  refine j_callS (m_in3 (nI 2) (nI 0) (nI 7) rfl rfl) dX6_person__14 rfl ms_X6_54 ⟨(Nat.le_of_ble_eq_true rfl), (Nat.le_of_ble_eq_true rfl)⟩ ⟨(Nat.le_of_ble_eq_true rfl), (Nat.le_of_ble_eq_true rfl)⟩ (Nat.le_of_ble_eq_true rfl) ?_
  refine j_top (nI 1) (inI_N (by omega) (by omega) (by omega)) ?_
  refine j_if_ne 44 dX6_person__17 (by decide) (fun _ => ?_) (fun h => absurd h (by decide))
  refine j_iload_n dX6_person__44 rfl rfl ?_
  refine j_bipush (nI 9) dX6_person__45 rfl ?_
  refine j_icmp_leN 68 dX6_person__47 (by decide) (by omega) (by omega) (fun b47 => ?_) (fun b47 => by exfalso; omega)
  refine j_iload_n dX6_person__68 rfl rfl ?_
  refine j_iconst (nI 4) dX6_person__69 rfl ?_
  refine j_icmp_neN 81 dX6_person__70 (by decide) (by omega) (by omega) (fun b70 => ?_) (fun b70 => by exfalso; omega)
  refine j_iload_n dX6_person__81 rfl rfl ?_
  refine j_iconst (nI 5) dX6_person__82 rfl ?_
  refine j_icmp_neN 98 dX6_person__83 (by decide) (by omega) (by omega) (fun b83 => ?_) (fun b83 => by exfalso; omega)
  refine j_iload_n dX6_person__98 rfl rfl ?_
  refine j_bipush (nI 6) dX6_person__99 rfl ?_
  refine j_icmp_neN 116 dX6_person__101 (by decide) (by omega) (by omega) (fun b101 => ?_) (fun b101 => by exfalso; omega)
  refine j_aload_n dX6_person__116 rfl rfl ?_
  refine j_iload_n dX6_person__117 rfl rfl ?_
  refine j_callV (m_netOf hN hp) dX6_person__118 rfl mv_X6_186 mH_o rfl ⟨(Nat.le_of_ble_eq_true rfl), (Nat.le_of_ble_eq_true rfl)⟩ ⟨(Nat.le_of_ble_eq_true rfl), (Nat.le_of_ble_eq_true rfl)⟩ (Nat.le_of_ble_eq_true rfl) ?_
  refine j_istore_n dX6_person__121 rfl (Nat.le_of_ble_eq_true rfl) rfl ?_
  refine j_iload_n dX6_person__122 rfl rfl ?_
  refine j_if_ne 137 dX6_person__123 (by decide) (fun b123 => ?_) (fun b123 => by exact absurd b123 (by decide))
  refine j_iload_n dX6_person__137 rfl rfl ?_
  refine j_iconst (nI 1) dX6_person__138 rfl ?_
  refine j_icmp_neN 154 dX6_person__139 (by decide) (by omega) (by omega) (fun b139 => ?_) (fun b139 => by exfalso; omega)
  refine j_iload_n dX6_person__154 rfl rfl ?_
  refine j_iconst (nI 2) dX6_person__155 rfl ?_
  refine j_icmp_neN 170 dX6_person__156 (by decide) (by omega) (by omega) (fun b156 => by exact absurd rfl b156) (fun b156 => ?_)
  refine j_aload_n dX6_person__159 rfl rfl ?_
  refine j_getf dX6_person__160 6 0 rfl (Nat.le_of_ble_eq_true rfl) fl_X6_7 in_6 mH_o rfl ?_
  refine j_iload_n dX6_person__163 rfl rfl ?_
  refine j_callS (m_owedIn mH_a0 hN hp) dX6_person__164 rfl ms_X6_151 ⟨(Nat.le_of_ble_eq_true rfl), (Nat.le_of_ble_eq_true rfl)⟩ ⟨(Nat.le_of_ble_eq_true rfl), (Nat.le_of_ble_eq_true rfl)⟩ (Nat.le_of_ble_eq_true rfl) ?_
  refine j_goto 187 dX6_person__167 (by decide) ?_
  exact j_iret rfl dX6_person__187 rfl rfl (Nat.le_of_ble_eq_true rfl) (Nat.le_of_ble_eq_true rfl)
theorem m_person_3 (hN : sN d ≤ 7) (hp : p < sN d) (hu : 1 ≤ sU d) (hu2 : sU d ≤ 20) : Ct G yX6_person_ cX6_person_ 4 (some .int) 5 0 0 z (mH σ (encT d) a1 a2 a3 a4 a5 a6 a7 a8 a9 a10 a11 i0 i1 i2 i3 i4 i5 i6 i7 i8 i9 i10 i11) [.ref 171, .int (nI p), .int (nI 3)] (some (.int (shd (sD d) (sN d) (sU d) p))) z (mH σ (encT d) a1 a2 a3 a4 a5 a6 a7 a8 a9 a10 a11 i0 i1 i2 i3 i4 i5 i6 i7 i8 i9 i10 i11) := by
  refine Ct.ofJ RX6 rfl [some (.ref 171), some (.int (nI p)), some (.int (nI 3)), none] rfl (by decide) (by simp [Value.category]) ?_
  refine j_aload_n dX6_person__0 rfl rfl ?_
  refine j_iload_n dX6_person__1 rfl rfl ?_
  refine j_callV (m_one enc_n hN _) dX6_person__2 rfl mv_X6_148 mH_o rfl ⟨(Nat.le_of_ble_eq_true rfl), (Nat.le_of_ble_eq_true rfl)⟩ ⟨(Nat.le_of_ble_eq_true rfl), (Nat.le_of_ble_eq_true rfl)⟩ (Nat.le_of_ble_eq_true rfl) ?_
  refine j_top (nI 1) (oneI_k hp hN) ?_
  refine j_if_eq 41 dX6_person__5 (by decide) (fun h => absurd h (by decide)) (fun _ => ?_)
  refine j_iload_n dX6_person__8 rfl rfl ?_
  refine j_i2l dX6_person__9 ?_
  refine j_lconst (0) dX6_person__10 rfl ?_
  refine j_ldc2 (7) dX6_person__11 kl_X6_52 ?_
  refine j_callS (m_in3 (nI 3) (nI 0) (nI 7) rfl rfl) dX6_person__14 rfl ms_X6_54 ⟨(Nat.le_of_ble_eq_true rfl), (Nat.le_of_ble_eq_true rfl)⟩ ⟨(Nat.le_of_ble_eq_true rfl), (Nat.le_of_ble_eq_true rfl)⟩ (Nat.le_of_ble_eq_true rfl) ?_
  refine j_top (nI 1) (inI_N (by omega) (by omega) (by omega)) ?_
  refine j_if_ne 44 dX6_person__17 (by decide) (fun _ => ?_) (fun h => absurd h (by decide))
  refine j_iload_n dX6_person__44 rfl rfl ?_
  refine j_bipush (nI 9) dX6_person__45 rfl ?_
  refine j_icmp_leN 68 dX6_person__47 (by decide) (by omega) (by omega) (fun b47 => ?_) (fun b47 => by exfalso; omega)
  refine j_iload_n dX6_person__68 rfl rfl ?_
  refine j_iconst (nI 4) dX6_person__69 rfl ?_
  refine j_icmp_neN 81 dX6_person__70 (by decide) (by omega) (by omega) (fun b70 => ?_) (fun b70 => by exfalso; omega)
  refine j_iload_n dX6_person__81 rfl rfl ?_
  refine j_iconst (nI 5) dX6_person__82 rfl ?_
  refine j_icmp_neN 98 dX6_person__83 (by decide) (by omega) (by omega) (fun b83 => ?_) (fun b83 => by exfalso; omega)
  refine j_iload_n dX6_person__98 rfl rfl ?_
  refine j_bipush (nI 6) dX6_person__99 rfl ?_
  refine j_icmp_neN 116 dX6_person__101 (by decide) (by omega) (by omega) (fun b101 => ?_) (fun b101 => by exfalso; omega)
  refine j_aload_n dX6_person__116 rfl rfl ?_
  refine j_iload_n dX6_person__117 rfl rfl ?_
  refine j_callV (m_netOf hN hp) dX6_person__118 rfl mv_X6_186 mH_o rfl ⟨(Nat.le_of_ble_eq_true rfl), (Nat.le_of_ble_eq_true rfl)⟩ ⟨(Nat.le_of_ble_eq_true rfl), (Nat.le_of_ble_eq_true rfl)⟩ (Nat.le_of_ble_eq_true rfl) ?_
  refine j_istore_n dX6_person__121 rfl (Nat.le_of_ble_eq_true rfl) rfl ?_
  refine j_iload_n dX6_person__122 rfl rfl ?_
  refine j_if_ne 137 dX6_person__123 (by decide) (fun b123 => ?_) (fun b123 => by exact absurd b123 (by decide))
  refine j_iload_n dX6_person__137 rfl rfl ?_
  refine j_iconst (nI 1) dX6_person__138 rfl ?_
  refine j_icmp_neN 154 dX6_person__139 (by decide) (by omega) (by omega) (fun b139 => ?_) (fun b139 => by exfalso; omega)
  refine j_iload_n dX6_person__154 rfl rfl ?_
  refine j_iconst (nI 2) dX6_person__155 rfl ?_
  refine j_icmp_neN 170 dX6_person__156 (by decide) (by omega) (by omega) (fun b156 => ?_) (fun b156 => by exfalso; omega)
  refine j_iload_n dX6_person__170 rfl rfl ?_
  refine j_iconst (nI 3) dX6_person__171 rfl ?_
  refine j_icmp_neN 186 dX6_person__172 (by decide) (by omega) (by omega) (fun b172 => by exact absurd rfl b172) (fun b172 => ?_)
  refine j_aload_n dX6_person__175 rfl rfl ?_
  refine j_getf dX6_person__176 6 0 rfl (Nat.le_of_ble_eq_true rfl) fl_X6_7 in_6 mH_o rfl ?_
  refine j_iload_n dX6_person__179 rfl rfl ?_
  refine j_callS (m_shadeIn mH_a0 hN hp hu hu2) dX6_person__180 rfl ms_X6_155 ⟨(Nat.le_of_ble_eq_true rfl), (Nat.le_of_ble_eq_true rfl)⟩ ⟨(Nat.le_of_ble_eq_true rfl), (Nat.le_of_ble_eq_true rfl)⟩ (Nat.le_of_ble_eq_true rfl) ?_
  refine j_goto 187 dX6_person__183 (by decide) ?_
  exact j_iret rfl dX6_person__187 rfl rfl (Nat.le_of_ble_eq_true rfl) (Nat.le_of_ble_eq_true rfl)
theorem m_person_4 (hN : sN d ≤ 7) (hp : p < sN d) (hu : 1 ≤ sU d) (hu2 : sU d ≤ 20) (hP : okP d p) : Ct G yX6_person_ cX6_person_ 4 (some .int) 5 0 0 z (mH σ (encT d) a1 a2 a3 a4 a5 a6 a7 a8 a9 a10 a11 i0 i1 i2 i3 i4 i5 i6 i7 i8 i9 i10 i11) [.ref 171, .int (nI p), .int (nI 4)] (some (.int (lks (sP d) (sD d) (sN d) (sU d) p))) z (mH σ (encT d) a1 a2 a3 a4 a5 a6 a7 a8 a9 a10 a11 i0 i1 i2 i3 i4 i5 i6 i7 i8 i9 i10 i11) := by
  refine Ct.ofJ RX6 rfl [some (.ref 171), some (.int (nI p)), some (.int (nI 4)), none] rfl (by decide) (by simp [Value.category]) ?_
  refine j_aload_n dX6_person__0 rfl rfl ?_
  refine j_iload_n dX6_person__1 rfl rfl ?_
  refine j_callV (m_one enc_n hN _) dX6_person__2 rfl mv_X6_148 mH_o rfl ⟨(Nat.le_of_ble_eq_true rfl), (Nat.le_of_ble_eq_true rfl)⟩ ⟨(Nat.le_of_ble_eq_true rfl), (Nat.le_of_ble_eq_true rfl)⟩ (Nat.le_of_ble_eq_true rfl) ?_
  refine j_top (nI 1) (oneI_k hp hN) ?_
  refine j_if_eq 41 dX6_person__5 (by decide) (fun h => absurd h (by decide)) (fun _ => ?_)
  refine j_iload_n dX6_person__8 rfl rfl ?_
  refine j_i2l dX6_person__9 ?_
  refine j_lconst (0) dX6_person__10 rfl ?_
  refine j_ldc2 (7) dX6_person__11 kl_X6_52 ?_
  refine j_callS (m_in3 (nI 4) (nI 0) (nI 7) rfl rfl) dX6_person__14 rfl ms_X6_54 ⟨(Nat.le_of_ble_eq_true rfl), (Nat.le_of_ble_eq_true rfl)⟩ ⟨(Nat.le_of_ble_eq_true rfl), (Nat.le_of_ble_eq_true rfl)⟩ (Nat.le_of_ble_eq_true rfl) ?_
  refine j_top (nI 1) (inI_N (by omega) (by omega) (by omega)) ?_
  refine j_if_ne 44 dX6_person__17 (by decide) (fun _ => ?_) (fun h => absurd h (by decide))
  refine j_iload_n dX6_person__44 rfl rfl ?_
  refine j_bipush (nI 9) dX6_person__45 rfl ?_
  refine j_icmp_leN 68 dX6_person__47 (by decide) (by omega) (by omega) (fun b47 => ?_) (fun b47 => by exfalso; omega)
  refine j_iload_n dX6_person__68 rfl rfl ?_
  refine j_iconst (nI 4) dX6_person__69 rfl ?_
  refine j_icmp_neN 81 dX6_person__70 (by decide) (by omega) (by omega) (fun b70 => by exact absurd rfl b70) (fun b70 => ?_)
  refine j_aload_n dX6_person__73 rfl rfl ?_
  refine j_iload_n dX6_person__74 rfl rfl ?_
  refine j_callV (m_looks hN hp hu hu2 hP) dX6_person__75 rfl mv_X6_172 mH_o rfl ⟨(Nat.le_of_ble_eq_true rfl), (Nat.le_of_ble_eq_true rfl)⟩ ⟨(Nat.le_of_ble_eq_true rfl), (Nat.le_of_ble_eq_true rfl)⟩ (Nat.le_of_ble_eq_true rfl) ?_
  refine j_goto 121 dX6_person__78 (by decide) ?_
  refine j_istore_n dX6_person__121 rfl (Nat.le_of_ble_eq_true rfl) rfl ?_
  refine j_iload_n dX6_person__122 rfl rfl ?_
  refine j_if_ne 137 dX6_person__123 (by decide) (fun b123 => ?_) (fun b123 => by exact absurd b123 (by decide))
  refine j_iload_n dX6_person__137 rfl rfl ?_
  refine j_iconst (nI 1) dX6_person__138 rfl ?_
  refine j_icmp_neN 154 dX6_person__139 (by decide) (by omega) (by omega) (fun b139 => ?_) (fun b139 => by exfalso; omega)
  refine j_iload_n dX6_person__154 rfl rfl ?_
  refine j_iconst (nI 2) dX6_person__155 rfl ?_
  refine j_icmp_neN 170 dX6_person__156 (by decide) (by omega) (by omega) (fun b156 => ?_) (fun b156 => by exfalso; omega)
  refine j_iload_n dX6_person__170 rfl rfl ?_
  refine j_iconst (nI 3) dX6_person__171 rfl ?_
  refine j_icmp_neN 186 dX6_person__172 (by decide) (by omega) (by omega) (fun b172 => ?_) (fun b172 => by exfalso; omega)
  refine j_iload_n dX6_person__186 rfl rfl ?_
  exact j_iret rfl dX6_person__187 rfl rfl (Nat.le_of_ble_eq_true rfl) (Nat.le_of_ble_eq_true rfl)
theorem m_person_5 (hN : sN d ≤ 7) (hp : p < sN d) : Ct G yX6_person_ cX6_person_ 4 (some .int) 5 0 0 z (mH σ (encT d) a1 a2 a3 a4 a5 a6 a7 a8 a9 a10 a11 i0 i1 i2 i3 i4 i5 i6 i7 i8 i9 i10 i11) [.ref 171, .int (nI p), .int (nI 5)] (some (.int (bitI (sH d) (nI p)))) z (mH σ (encT d) a1 a2 a3 a4 a5 a6 a7 a8 a9 a10 a11 i0 i1 i2 i3 i4 i5 i6 i7 i8 i9 i10 i11) := by
  refine Ct.ofJ RX6 rfl [some (.ref 171), some (.int (nI p)), some (.int (nI 5)), none] rfl (by decide) (by simp [Value.category]) ?_
  refine j_aload_n dX6_person__0 rfl rfl ?_
  refine j_iload_n dX6_person__1 rfl rfl ?_
  refine j_callV (m_one enc_n hN _) dX6_person__2 rfl mv_X6_148 mH_o rfl ⟨(Nat.le_of_ble_eq_true rfl), (Nat.le_of_ble_eq_true rfl)⟩ ⟨(Nat.le_of_ble_eq_true rfl), (Nat.le_of_ble_eq_true rfl)⟩ (Nat.le_of_ble_eq_true rfl) ?_
  refine j_top (nI 1) (oneI_k hp hN) ?_
  refine j_if_eq 41 dX6_person__5 (by decide) (fun h => absurd h (by decide)) (fun _ => ?_)
  refine j_iload_n dX6_person__8 rfl rfl ?_
  refine j_i2l dX6_person__9 ?_
  refine j_lconst (0) dX6_person__10 rfl ?_
  refine j_ldc2 (7) dX6_person__11 kl_X6_52 ?_
  refine j_callS (m_in3 (nI 5) (nI 0) (nI 7) rfl rfl) dX6_person__14 rfl ms_X6_54 ⟨(Nat.le_of_ble_eq_true rfl), (Nat.le_of_ble_eq_true rfl)⟩ ⟨(Nat.le_of_ble_eq_true rfl), (Nat.le_of_ble_eq_true rfl)⟩ (Nat.le_of_ble_eq_true rfl) ?_
  refine j_top (nI 1) (inI_N (by omega) (by omega) (by omega)) ?_
  refine j_if_ne 44 dX6_person__17 (by decide) (fun _ => ?_) (fun h => absurd h (by decide))
  refine j_iload_n dX6_person__44 rfl rfl ?_
  refine j_bipush (nI 9) dX6_person__45 rfl ?_
  refine j_icmp_leN 68 dX6_person__47 (by decide) (by omega) (by omega) (fun b47 => ?_) (fun b47 => by exfalso; omega)
  refine j_iload_n dX6_person__68 rfl rfl ?_
  refine j_iconst (nI 4) dX6_person__69 rfl ?_
  refine j_icmp_neN 81 dX6_person__70 (by decide) (by omega) (by omega) (fun b70 => ?_) (fun b70 => by exfalso; omega)
  refine j_iload_n dX6_person__81 rfl rfl ?_
  refine j_iconst (nI 5) dX6_person__82 rfl ?_
  refine j_icmp_neN 98 dX6_person__83 (by decide) (by omega) (by omega) (fun b83 => by exact absurd rfl b83) (fun b83 => ?_)
  refine j_aload_n dX6_person__86 rfl rfl ?_
  refine j_getf dX6_person__87 6 0 rfl (Nat.le_of_ble_eq_true rfl) fl_X6_7 in_6 mH_o rfl ?_
  refine j_bipush (nI 18) dX6_person__90 rfl ?_
  refine j_iload_n dX6_person__92 rfl rfl ?_
  first | refine j_iaddN dX6_person__93 ?_ | refine j_iadd dX6_person__93 ?_
  refine j_iald dX6_person__94 mH_a0 rfl (by omega) (by decide) ?_
  refine j_top _ (enc_h hN hp) ?_
  refine j_goto 121 dX6_person__95 (by decide) ?_
  refine j_istore_n dX6_person__121 rfl (Nat.le_of_ble_eq_true rfl) rfl ?_
  refine j_iload_n dX6_person__122 rfl rfl ?_
  refine j_if_ne 137 dX6_person__123 (by decide) (fun b123 => ?_) (fun b123 => by exact absurd b123 (by decide))
  refine j_iload_n dX6_person__137 rfl rfl ?_
  refine j_iconst (nI 1) dX6_person__138 rfl ?_
  refine j_icmp_neN 154 dX6_person__139 (by decide) (by omega) (by omega) (fun b139 => ?_) (fun b139 => by exfalso; omega)
  refine j_iload_n dX6_person__154 rfl rfl ?_
  refine j_iconst (nI 2) dX6_person__155 rfl ?_
  refine j_icmp_neN 170 dX6_person__156 (by decide) (by omega) (by omega) (fun b156 => ?_) (fun b156 => by exfalso; omega)
  refine j_iload_n dX6_person__170 rfl rfl ?_
  refine j_iconst (nI 3) dX6_person__171 rfl ?_
  refine j_icmp_neN 186 dX6_person__172 (by decide) (by omega) (by omega) (fun b172 => ?_) (fun b172 => by exfalso; omega)
  refine j_iload_n dX6_person__186 rfl rfl ?_
  exact j_iret rfl dX6_person__187 rfl rfl (Nat.le_of_ble_eq_true rfl) (Nat.le_of_ble_eq_true rfl)
theorem m_person_6 (hN : sN d ≤ 7) (hp : p < sN d) : Ct G yX6_person_ cX6_person_ 4 (some .int) 5 0 0 z (mH σ (encT d) a1 a2 a3 a4 a5 a6 a7 a8 a9 a10 a11 i0 i1 i2 i3 i4 i5 i6 i7 i8 i9 i10 i11) [.ref 171, .int (nI p), .int (nI 6)] (some (.int (bitI (sF d) (nI p)))) z (mH σ (encT d) a1 a2 a3 a4 a5 a6 a7 a8 a9 a10 a11 i0 i1 i2 i3 i4 i5 i6 i7 i8 i9 i10 i11) := by
  refine Ct.ofJ RX6 rfl [some (.ref 171), some (.int (nI p)), some (.int (nI 6)), none] rfl (by decide) (by simp [Value.category]) ?_
  refine j_aload_n dX6_person__0 rfl rfl ?_
  refine j_iload_n dX6_person__1 rfl rfl ?_
  refine j_callV (m_one enc_n hN _) dX6_person__2 rfl mv_X6_148 mH_o rfl ⟨(Nat.le_of_ble_eq_true rfl), (Nat.le_of_ble_eq_true rfl)⟩ ⟨(Nat.le_of_ble_eq_true rfl), (Nat.le_of_ble_eq_true rfl)⟩ (Nat.le_of_ble_eq_true rfl) ?_
  refine j_top (nI 1) (oneI_k hp hN) ?_
  refine j_if_eq 41 dX6_person__5 (by decide) (fun h => absurd h (by decide)) (fun _ => ?_)
  refine j_iload_n dX6_person__8 rfl rfl ?_
  refine j_i2l dX6_person__9 ?_
  refine j_lconst (0) dX6_person__10 rfl ?_
  refine j_ldc2 (7) dX6_person__11 kl_X6_52 ?_
  refine j_callS (m_in3 (nI 6) (nI 0) (nI 7) rfl rfl) dX6_person__14 rfl ms_X6_54 ⟨(Nat.le_of_ble_eq_true rfl), (Nat.le_of_ble_eq_true rfl)⟩ ⟨(Nat.le_of_ble_eq_true rfl), (Nat.le_of_ble_eq_true rfl)⟩ (Nat.le_of_ble_eq_true rfl) ?_
  refine j_top (nI 1) (inI_N (by omega) (by omega) (by omega)) ?_
  refine j_if_ne 44 dX6_person__17 (by decide) (fun _ => ?_) (fun h => absurd h (by decide))
  refine j_iload_n dX6_person__44 rfl rfl ?_
  refine j_bipush (nI 9) dX6_person__45 rfl ?_
  refine j_icmp_leN 68 dX6_person__47 (by decide) (by omega) (by omega) (fun b47 => ?_) (fun b47 => by exfalso; omega)
  refine j_iload_n dX6_person__68 rfl rfl ?_
  refine j_iconst (nI 4) dX6_person__69 rfl ?_
  refine j_icmp_neN 81 dX6_person__70 (by decide) (by omega) (by omega) (fun b70 => ?_) (fun b70 => by exfalso; omega)
  refine j_iload_n dX6_person__81 rfl rfl ?_
  refine j_iconst (nI 5) dX6_person__82 rfl ?_
  refine j_icmp_neN 98 dX6_person__83 (by decide) (by omega) (by omega) (fun b83 => ?_) (fun b83 => by exfalso; omega)
  refine j_iload_n dX6_person__98 rfl rfl ?_
  refine j_bipush (nI 6) dX6_person__99 rfl ?_
  refine j_icmp_neN 116 dX6_person__101 (by decide) (by omega) (by omega) (fun b101 => by exact absurd rfl b101) (fun b101 => ?_)
  refine j_aload_n dX6_person__104 rfl rfl ?_
  refine j_getf dX6_person__105 6 0 rfl (Nat.le_of_ble_eq_true rfl) fl_X6_7 in_6 mH_o rfl ?_
  refine j_bipush (nI 32) dX6_person__108 rfl ?_
  refine j_iload_n dX6_person__110 rfl rfl ?_
  first | refine j_iaddN dX6_person__111 ?_ | refine j_iadd dX6_person__111 ?_
  refine j_iald dX6_person__112 mH_a0 rfl (by omega) (by decide) ?_
  refine j_top _ (enc_f hN hp) ?_
  refine j_goto 121 dX6_person__113 (by decide) ?_
  refine j_istore_n dX6_person__121 rfl (Nat.le_of_ble_eq_true rfl) rfl ?_
  refine j_iload_n dX6_person__122 rfl rfl ?_
  refine j_if_ne 137 dX6_person__123 (by decide) (fun b123 => ?_) (fun b123 => by exact absurd b123 (by decide))
  refine j_iload_n dX6_person__137 rfl rfl ?_
  refine j_iconst (nI 1) dX6_person__138 rfl ?_
  refine j_icmp_neN 154 dX6_person__139 (by decide) (by omega) (by omega) (fun b139 => ?_) (fun b139 => by exfalso; omega)
  refine j_iload_n dX6_person__154 rfl rfl ?_
  refine j_iconst (nI 2) dX6_person__155 rfl ?_
  refine j_icmp_neN 170 dX6_person__156 (by decide) (by omega) (by omega) (fun b156 => ?_) (fun b156 => by exfalso; omega)
  refine j_iload_n dX6_person__170 rfl rfl ?_
  refine j_iconst (nI 3) dX6_person__171 rfl ?_
  refine j_icmp_neN 186 dX6_person__172 (by decide) (by omega) (by omega) (fun b172 => ?_) (fun b172 => by exfalso; omega)
  refine j_iload_n dX6_person__186 rfl rfl ?_
  exact j_iret rfl dX6_person__187 rfl rfl (Nat.le_of_ble_eq_true rfl) (Nat.le_of_ble_eq_true rfl)
theorem m_person_7 (hN : sN d ≤ 7) (hp : p < sN d) : Ct G yX6_person_ cX6_person_ 4 (some .int) 5 0 0 z (mH σ (encT d) a1 a2 a3 a4 a5 a6 a7 a8 a9 a10 a11 i0 i1 i2 i3 i4 i5 i6 i7 i8 i9 i10 i11) [.ref 171, .int (nI p), .int (nI 7)] (some (.int (tsum (sD d) (sN d) p - dsum (sD d) (sN d) p))) z (mH σ (encT d) a1 a2 a3 a4 a5 a6 a7 a8 a9 a10 a11 i0 i1 i2 i3 i4 i5 i6 i7 i8 i9 i10 i11) := by
  refine Ct.ofJ RX6 rfl [some (.ref 171), some (.int (nI p)), some (.int (nI 7)), none] rfl (by decide) (by simp [Value.category]) ?_
  refine j_aload_n dX6_person__0 rfl rfl ?_
  refine j_iload_n dX6_person__1 rfl rfl ?_
  refine j_callV (m_one enc_n hN _) dX6_person__2 rfl mv_X6_148 mH_o rfl ⟨(Nat.le_of_ble_eq_true rfl), (Nat.le_of_ble_eq_true rfl)⟩ ⟨(Nat.le_of_ble_eq_true rfl), (Nat.le_of_ble_eq_true rfl)⟩ (Nat.le_of_ble_eq_true rfl) ?_
  refine j_top (nI 1) (oneI_k hp hN) ?_
  refine j_if_eq 41 dX6_person__5 (by decide) (fun h => absurd h (by decide)) (fun _ => ?_)
  refine j_iload_n dX6_person__8 rfl rfl ?_
  refine j_i2l dX6_person__9 ?_
  refine j_lconst (0) dX6_person__10 rfl ?_
  refine j_ldc2 (7) dX6_person__11 kl_X6_52 ?_
  refine j_callS (m_in3 (nI 7) (nI 0) (nI 7) rfl rfl) dX6_person__14 rfl ms_X6_54 ⟨(Nat.le_of_ble_eq_true rfl), (Nat.le_of_ble_eq_true rfl)⟩ ⟨(Nat.le_of_ble_eq_true rfl), (Nat.le_of_ble_eq_true rfl)⟩ (Nat.le_of_ble_eq_true rfl) ?_
  refine j_top (nI 1) (inI_N (by omega) (by omega) (by omega)) ?_
  refine j_if_ne 44 dX6_person__17 (by decide) (fun _ => ?_) (fun h => absurd h (by decide))
  refine j_iload_n dX6_person__44 rfl rfl ?_
  refine j_bipush (nI 9) dX6_person__45 rfl ?_
  refine j_icmp_leN 68 dX6_person__47 (by decide) (by omega) (by omega) (fun b47 => ?_) (fun b47 => by exfalso; omega)
  refine j_iload_n dX6_person__68 rfl rfl ?_
  refine j_iconst (nI 4) dX6_person__69 rfl ?_
  refine j_icmp_neN 81 dX6_person__70 (by decide) (by omega) (by omega) (fun b70 => ?_) (fun b70 => by exfalso; omega)
  refine j_iload_n dX6_person__81 rfl rfl ?_
  refine j_iconst (nI 5) dX6_person__82 rfl ?_
  refine j_icmp_neN 98 dX6_person__83 (by decide) (by omega) (by omega) (fun b83 => ?_) (fun b83 => by exfalso; omega)
  refine j_iload_n dX6_person__98 rfl rfl ?_
  refine j_bipush (nI 6) dX6_person__99 rfl ?_
  refine j_icmp_neN 116 dX6_person__101 (by decide) (by omega) (by omega) (fun b101 => ?_) (fun b101 => by exfalso; omega)
  refine j_aload_n dX6_person__116 rfl rfl ?_
  refine j_iload_n dX6_person__117 rfl rfl ?_
  refine j_callV (m_netOf hN hp) dX6_person__118 rfl mv_X6_186 mH_o rfl ⟨(Nat.le_of_ble_eq_true rfl), (Nat.le_of_ble_eq_true rfl)⟩ ⟨(Nat.le_of_ble_eq_true rfl), (Nat.le_of_ble_eq_true rfl)⟩ (Nat.le_of_ble_eq_true rfl) ?_
  refine j_istore_n dX6_person__121 rfl (Nat.le_of_ble_eq_true rfl) rfl ?_
  refine j_iload_n dX6_person__122 rfl rfl ?_
  refine j_if_ne 137 dX6_person__123 (by decide) (fun b123 => ?_) (fun b123 => by exact absurd b123 (by decide))
  refine j_iload_n dX6_person__137 rfl rfl ?_
  refine j_iconst (nI 1) dX6_person__138 rfl ?_
  refine j_icmp_neN 154 dX6_person__139 (by decide) (by omega) (by omega) (fun b139 => ?_) (fun b139 => by exfalso; omega)
  refine j_iload_n dX6_person__154 rfl rfl ?_
  refine j_iconst (nI 2) dX6_person__155 rfl ?_
  refine j_icmp_neN 170 dX6_person__156 (by decide) (by omega) (by omega) (fun b156 => ?_) (fun b156 => by exfalso; omega)
  refine j_iload_n dX6_person__170 rfl rfl ?_
  refine j_iconst (nI 3) dX6_person__171 rfl ?_
  refine j_icmp_neN 186 dX6_person__172 (by decide) (by omega) (by omega) (fun b172 => ?_) (fun b172 => by exfalso; omega)
  refine j_iload_n dX6_person__186 rfl rfl ?_
  exact j_iret rfl dX6_person__187 rfl rfl (Nat.le_of_ble_eq_true rfl) (Nat.le_of_ble_eq_true rfl)
theorem m_as_kind (hN : sN d ≤ 7) (hp : p < sN d) (hu : 1 ≤ sU d) (hu2 : sU d ≤ 20) (hz : ¬ 0 < dsum (sD d) (sN d) p → dsum (sD d) (sN d) p = 0) {k kd : Nat} (hk : k < 6) (hkd : kindI (sD d) (sF d) (sN d) (sU d) p = nI kd) (hk6 : kd < 6) (h : ¬ soM kd k) : Ct G yX6_as cX6_as 5 (some .int) 5 0 0 z (mH σ (encT d) a1 a2 a3 a4 a5 a6 a7 a8 a9 a10 a11 i0 i1 i2 i3 i4 i5 i6 i7 i8 i9 i10 i11) [.ref 171, .int (nI p), .int (nI k)] (some (.int (-1000010 - nI 3))) z (mH σ (encT d) a1 a2 a3 a4 a5 a6 a7 a8 a9 a10 a11 i0 (nI 3) i2 i3 i4 i5 i6 i7 i8 i9 i10 i11) := by
  refine Ct.ofJ RX6 rfl [some (.ref 171), some (.int (nI p)), some (.int (nI k)), none, none] rfl (by decide) (by simp [Value.category]) ?_
  unfold soM at h
  refine j_aload_n dX6_as_0 rfl rfl ?_
  refine j_iload_n dX6_as_1 rfl rfl ?_
  refine j_callV (m_one enc_n hN _) dX6_as_2 rfl mv_X6_148 mH_o rfl ⟨(Nat.le_of_ble_eq_true rfl), (Nat.le_of_ble_eq_true rfl)⟩ ⟨(Nat.le_of_ble_eq_true rfl), (Nat.le_of_ble_eq_true rfl)⟩ (Nat.le_of_ble_eq_true rfl) ?_
  refine j_top (nI 1) (oneI_k hp hN) ?_
  refine j_if_eq 20 dX6_as_5 (by decide) (fun h => absurd h (by decide)) (fun _ => ?_)
  refine j_iload_n dX6_as_8 rfl rfl ?_
  refine j_i2l dX6_as_9 ?_
  refine j_lconst (0) dX6_as_10 rfl ?_
  refine j_ldc2 (5) dX6_as_11 kl_X6_208 ?_
  refine j_callS (m_in3 (nI k) (nI 0) (nI 5) rfl rfl) dX6_as_14 rfl ms_X6_54 ⟨(Nat.le_of_ble_eq_true rfl), (Nat.le_of_ble_eq_true rfl)⟩ ⟨(Nat.le_of_ble_eq_true rfl), (Nat.le_of_ble_eq_true rfl)⟩ (Nat.le_of_ble_eq_true rfl) ?_
  refine j_top (nI 1) (inI_N (by omega) (by omega) (by omega)) ?_
  refine j_if_ne 23 dX6_as_17 (by decide) (fun _ => ?_) (fun h => absurd h (by decide))
  refine j_aload_n dX6_as_23 rfl rfl ?_
  refine j_iload_n dX6_as_24 rfl rfl ?_
  refine j_callV (m_kindOf hN hp hu hu2 hz) dX6_as_25 rfl mv_X6_205 mH_o rfl ⟨(Nat.le_of_ble_eq_true rfl), (Nat.le_of_ble_eq_true rfl)⟩ ⟨(Nat.le_of_ble_eq_true rfl), (Nat.le_of_ble_eq_true rfl)⟩ (Nat.le_of_ble_eq_true rfl) ?_
  refine j_top _ hkd ?_
  refine j_istore_n dX6_as_28 rfl (Nat.le_of_ble_eq_true rfl) rfl ?_
  refine j_iload_n dX6_as_29 rfl rfl ?_
  refine j_if_eq 58 dX6_as_30 (by decide) (fun b30 => by exact absurd (Or.inl ((nI_eq (b := 0) (by omega) (by omega)).mp b30)) h) (fun b30 => ?_)
  refine j_iload_n dX6_as_33 rfl rfl ?_
  refine j_iload_n dX6_as_34 rfl rfl ?_
  refine j_icmp_eqN 58 dX6_as_35 (by decide) (by omega) (by omega) (fun b35 => by exfalso; omega) (fun b35 => ?_)
  refine j_iload_n dX6_as_38 rfl rfl ?_
  refine j_iconst (nI 4) dX6_as_39 rfl ?_
  refine j_icmp_neN 48 dX6_as_40 (by decide) (by omega) (by omega) (fun b40 => ?_) (fun b40 => ?_)
  · refine j_iload_n dX6_as_48 rfl rfl ?_
    refine j_iconst (nI 4) dX6_as_49 rfl ?_
    refine j_icmp_geN 62 dX6_as_50 (by decide) (by omega) (by omega) (fun b50 => ?_) (fun b50 => ?_)
    · refine j_iconst (nI 0) dX6_as_62 rfl ?_
      refine j_istore dX6_as_63 (Nat.le_of_ble_eq_true rfl) rfl ?_
      refine j_iload dX6_as_65 rfl ?_
      refine j_top (nI 0) rfl ?_
      refine j_if_eq 78 dX6_as_67 (by decide) (fun _ => ?_) (fun h => absurd rfl h)
      refine j_aload_n dX6_as_78 rfl rfl ?_
      refine j_iconst (nI 3) dX6_as_79 rfl ?_
      refine j_callV (m_finds (nI 3)) dX6_as_80 rfl mv_X6_65 mH_o rfl ⟨(Nat.le_of_ble_eq_true rfl), (Nat.le_of_ble_eq_true rfl)⟩ ⟨(Nat.le_of_ble_eq_true rfl), (Nat.le_of_ble_eq_true rfl)⟩ (Nat.le_of_ble_eq_true rfl) ?_
      exact j_iret rfl dX6_as_83 rfl rfl (Nat.le_of_ble_eq_true rfl) (Nat.le_of_ble_eq_true rfl)
    · refine j_iload_n dX6_as_53 rfl rfl ?_
      refine j_iload_n dX6_as_54 rfl rfl ?_
      refine j_icmp_geN 62 dX6_as_55 (by decide) (by omega) (by omega) (fun b55 => ?_) (fun b55 => by exfalso; omega)
      refine j_iconst (nI 0) dX6_as_62 rfl ?_
      refine j_istore dX6_as_63 (Nat.le_of_ble_eq_true rfl) rfl ?_
      refine j_iload dX6_as_65 rfl ?_
      refine j_top (nI 0) rfl ?_
      refine j_if_eq 78 dX6_as_67 (by decide) (fun _ => ?_) (fun h => absurd rfl h)
      refine j_aload_n dX6_as_78 rfl rfl ?_
      refine j_iconst (nI 3) dX6_as_79 rfl ?_
      refine j_callV (m_finds (nI 3)) dX6_as_80 rfl mv_X6_65 mH_o rfl ⟨(Nat.le_of_ble_eq_true rfl), (Nat.le_of_ble_eq_true rfl)⟩ ⟨(Nat.le_of_ble_eq_true rfl), (Nat.le_of_ble_eq_true rfl)⟩ (Nat.le_of_ble_eq_true rfl) ?_
      exact j_iret rfl dX6_as_83 rfl rfl (Nat.le_of_ble_eq_true rfl) (Nat.le_of_ble_eq_true rfl)
  · refine j_iload_n dX6_as_43 rfl rfl ?_
    refine j_iconst (nI 5) dX6_as_44 rfl ?_
    refine j_icmp_eqN 58 dX6_as_45 (by decide) (by omega) (by omega) (fun b45 => by exfalso; omega) (fun b45 => ?_)
    refine j_iload_n dX6_as_48 rfl rfl ?_
    refine j_iconst (nI 4) dX6_as_49 rfl ?_
    refine j_icmp_geN 62 dX6_as_50 (by decide) (by omega) (by omega) (fun b50 => ?_) (fun b50 => ?_)
    · refine j_iconst (nI 0) dX6_as_62 rfl ?_
      refine j_istore dX6_as_63 (Nat.le_of_ble_eq_true rfl) rfl ?_
      refine j_iload dX6_as_65 rfl ?_
      refine j_top (nI 0) rfl ?_
      refine j_if_eq 78 dX6_as_67 (by decide) (fun _ => ?_) (fun h => absurd rfl h)
      refine j_aload_n dX6_as_78 rfl rfl ?_
      refine j_iconst (nI 3) dX6_as_79 rfl ?_
      refine j_callV (m_finds (nI 3)) dX6_as_80 rfl mv_X6_65 mH_o rfl ⟨(Nat.le_of_ble_eq_true rfl), (Nat.le_of_ble_eq_true rfl)⟩ ⟨(Nat.le_of_ble_eq_true rfl), (Nat.le_of_ble_eq_true rfl)⟩ (Nat.le_of_ble_eq_true rfl) ?_
      exact j_iret rfl dX6_as_83 rfl rfl (Nat.le_of_ble_eq_true rfl) (Nat.le_of_ble_eq_true rfl)
    · refine j_iload_n dX6_as_53 rfl rfl ?_
      refine j_iload_n dX6_as_54 rfl rfl ?_
      refine j_icmp_geN 62 dX6_as_55 (by decide) (by omega) (by omega) (fun b55 => ?_) (fun b55 => by exfalso; omega)
      refine j_iconst (nI 0) dX6_as_62 rfl ?_
      refine j_istore dX6_as_63 (Nat.le_of_ble_eq_true rfl) rfl ?_
      refine j_iload dX6_as_65 rfl ?_
      refine j_top (nI 0) rfl ?_
      refine j_if_eq 78 dX6_as_67 (by decide) (fun _ => ?_) (fun h => absurd rfl h)
      refine j_aload_n dX6_as_78 rfl rfl ?_
      refine j_iconst (nI 3) dX6_as_79 rfl ?_
      refine j_callV (m_finds (nI 3)) dX6_as_80 rfl mv_X6_65 mH_o rfl ⟨(Nat.le_of_ble_eq_true rfl), (Nat.le_of_ble_eq_true rfl)⟩ ⟨(Nat.le_of_ble_eq_true rfl), (Nat.le_of_ble_eq_true rfl)⟩ (Nat.le_of_ble_eq_true rfl) ?_
      exact j_iret rfl dX6_as_83 rfl rfl (Nat.le_of_ble_eq_true rfl) (Nat.le_of_ble_eq_true rfl)
theorem m_as_ok (hN : sN d ≤ 7) (hp : p < sN d) (hu : 1 ≤ sU d) (hu2 : sU d ≤ 20) (hz : ¬ 0 < dsum (sD d) (sN d) p → dsum (sD d) (sN d) p = 0) {k kd : Nat} (hk : k < 6) (hkd : kindI (sD d) (sF d) (sN d) (sU d) p = nI kd) (hk6 : kd < 6) (h : soM kd k) : Ct G yX6_as cX6_as 5 (some .int) 5 0 0 z (mH σ (encT d) a1 a2 a3 a4 a5 a6 a7 a8 a9 a10 a11 i0 i1 i2 i3 i4 i5 i6 i7 i8 i9 i10 i11) [.ref 171, .int (nI p), .int (nI k)] (some (.int (nI p))) z (mH σ (encT d) a1 a2 a3 a4 a5 a6 a7 a8 a9 a10 a11 i0 (nI 0) i2 i3 i4 i5 i6 i7 i8 i9 i10 i11) := by
  refine Ct.ofJ RX6 rfl [some (.ref 171), some (.int (nI p)), some (.int (nI k)), none, none] rfl (by decide) (by simp [Value.category]) ?_
  unfold soM at h
  refine j_aload_n dX6_as_0 rfl rfl ?_
  refine j_iload_n dX6_as_1 rfl rfl ?_
  refine j_callV (m_one enc_n hN _) dX6_as_2 rfl mv_X6_148 mH_o rfl ⟨(Nat.le_of_ble_eq_true rfl), (Nat.le_of_ble_eq_true rfl)⟩ ⟨(Nat.le_of_ble_eq_true rfl), (Nat.le_of_ble_eq_true rfl)⟩ (Nat.le_of_ble_eq_true rfl) ?_
  refine j_top (nI 1) (oneI_k hp hN) ?_
  refine j_if_eq 20 dX6_as_5 (by decide) (fun h => absurd h (by decide)) (fun _ => ?_)
  refine j_iload_n dX6_as_8 rfl rfl ?_
  refine j_i2l dX6_as_9 ?_
  refine j_lconst (0) dX6_as_10 rfl ?_
  refine j_ldc2 (5) dX6_as_11 kl_X6_208 ?_
  refine j_callS (m_in3 (nI k) (nI 0) (nI 5) rfl rfl) dX6_as_14 rfl ms_X6_54 ⟨(Nat.le_of_ble_eq_true rfl), (Nat.le_of_ble_eq_true rfl)⟩ ⟨(Nat.le_of_ble_eq_true rfl), (Nat.le_of_ble_eq_true rfl)⟩ (Nat.le_of_ble_eq_true rfl) ?_
  refine j_top (nI 1) (inI_N (by omega) (by omega) (by omega)) ?_
  refine j_if_ne 23 dX6_as_17 (by decide) (fun _ => ?_) (fun h => absurd h (by decide))
  refine j_aload_n dX6_as_23 rfl rfl ?_
  refine j_iload_n dX6_as_24 rfl rfl ?_
  refine j_callV (m_kindOf hN hp hu hu2 hz) dX6_as_25 rfl mv_X6_205 mH_o rfl ⟨(Nat.le_of_ble_eq_true rfl), (Nat.le_of_ble_eq_true rfl)⟩ ⟨(Nat.le_of_ble_eq_true rfl), (Nat.le_of_ble_eq_true rfl)⟩ (Nat.le_of_ble_eq_true rfl) ?_
  refine j_top _ hkd ?_
  refine j_istore_n dX6_as_28 rfl (Nat.le_of_ble_eq_true rfl) rfl ?_
  refine j_iload_n dX6_as_29 rfl rfl ?_
  refine j_if_eq 58 dX6_as_30 (by decide) (fun b30 => ?_) (fun b30 => ?_)
  · refine j_iconst (nI 1) dX6_as_58 rfl ?_
    refine j_goto 63 dX6_as_59 (by decide) ?_
    refine j_istore dX6_as_63 (Nat.le_of_ble_eq_true rfl) rfl ?_
    refine j_iload dX6_as_65 rfl ?_
    refine j_top (nI 1) rfl ?_
    refine j_if_eq 78 dX6_as_67 (by decide) (fun h => absurd h (by decide)) (fun _ => ?_)
    refine j_aload_n dX6_as_70 rfl rfl ?_
    refine j_iload_n dX6_as_71 rfl rfl ?_
    refine j_callV (m_fine (nI p)) dX6_as_72 rfl mv_X6_69 mH_o rfl ⟨(Nat.le_of_ble_eq_true rfl), (Nat.le_of_ble_eq_true rfl)⟩ ⟨(Nat.le_of_ble_eq_true rfl), (Nat.le_of_ble_eq_true rfl)⟩ (Nat.le_of_ble_eq_true rfl) ?_
    refine j_goto 83 dX6_as_75 (by decide) ?_
    exact j_iret rfl dX6_as_83 rfl rfl (Nat.le_of_ble_eq_true rfl) (Nat.le_of_ble_eq_true rfl)
  · have k0 : k ≠ 0 := fun e => b30 (by rw [e]; rfl)
    refine j_iload_n dX6_as_33 rfl rfl ?_
    refine j_iload_n dX6_as_34 rfl rfl ?_
    refine j_icmp_eqN 58 dX6_as_35 (by decide) (by omega) (by omega) (fun b35 => ?_) (fun b35 => ?_)
    · refine j_iconst (nI 1) dX6_as_58 rfl ?_
      refine j_goto 63 dX6_as_59 (by decide) ?_
      refine j_istore dX6_as_63 (Nat.le_of_ble_eq_true rfl) rfl ?_
      refine j_iload dX6_as_65 rfl ?_
      refine j_top (nI 1) rfl ?_
      refine j_if_eq 78 dX6_as_67 (by decide) (fun h => absurd h (by decide)) (fun _ => ?_)
      refine j_aload_n dX6_as_70 rfl rfl ?_
      refine j_iload_n dX6_as_71 rfl rfl ?_
      refine j_callV (m_fine (nI p)) dX6_as_72 rfl mv_X6_69 mH_o rfl ⟨(Nat.le_of_ble_eq_true rfl), (Nat.le_of_ble_eq_true rfl)⟩ ⟨(Nat.le_of_ble_eq_true rfl), (Nat.le_of_ble_eq_true rfl)⟩ (Nat.le_of_ble_eq_true rfl) ?_
      refine j_goto 83 dX6_as_75 (by decide) ?_
      exact j_iret rfl dX6_as_83 rfl rfl (Nat.le_of_ble_eq_true rfl) (Nat.le_of_ble_eq_true rfl)
    · refine j_iload_n dX6_as_38 rfl rfl ?_
      refine j_iconst (nI 4) dX6_as_39 rfl ?_
      refine j_icmp_neN 48 dX6_as_40 (by decide) (by omega) (by omega) (fun b40 => ?_) (fun b40 => ?_)
      · refine j_iload_n dX6_as_48 rfl rfl ?_
        refine j_iconst (nI 4) dX6_as_49 rfl ?_
        refine j_icmp_geN 62 dX6_as_50 (by decide) (by omega) (by omega) (fun b50 => ?_) (fun b50 => ?_)
        · exfalso; omega
        · refine j_iload_n dX6_as_53 rfl rfl ?_
          refine j_iload_n dX6_as_54 rfl rfl ?_
          refine j_icmp_geN 62 dX6_as_55 (by decide) (by omega) (by omega) (fun b55 => ?_) (fun b55 => ?_)
          · exfalso; omega
          · refine j_iconst (nI 1) dX6_as_58 rfl ?_
            refine j_goto 63 dX6_as_59 (by decide) ?_
            refine j_istore dX6_as_63 (Nat.le_of_ble_eq_true rfl) rfl ?_
            refine j_iload dX6_as_65 rfl ?_
            refine j_top (nI 1) rfl ?_
            refine j_if_eq 78 dX6_as_67 (by decide) (fun h => absurd h (by decide)) (fun _ => ?_)
            refine j_aload_n dX6_as_70 rfl rfl ?_
            refine j_iload_n dX6_as_71 rfl rfl ?_
            refine j_callV (m_fine (nI p)) dX6_as_72 rfl mv_X6_69 mH_o rfl ⟨(Nat.le_of_ble_eq_true rfl), (Nat.le_of_ble_eq_true rfl)⟩ ⟨(Nat.le_of_ble_eq_true rfl), (Nat.le_of_ble_eq_true rfl)⟩ (Nat.le_of_ble_eq_true rfl) ?_
            refine j_goto 83 dX6_as_75 (by decide) ?_
            exact j_iret rfl dX6_as_83 rfl rfl (Nat.le_of_ble_eq_true rfl) (Nat.le_of_ble_eq_true rfl)
      · refine j_iload_n dX6_as_43 rfl rfl ?_
        refine j_iconst (nI 5) dX6_as_44 rfl ?_
        refine j_icmp_eqN 58 dX6_as_45 (by decide) (by omega) (by omega) (fun b45 => ?_) (fun b45 => ?_)
        · refine j_iconst (nI 1) dX6_as_58 rfl ?_
          refine j_goto 63 dX6_as_59 (by decide) ?_
          refine j_istore dX6_as_63 (Nat.le_of_ble_eq_true rfl) rfl ?_
          refine j_iload dX6_as_65 rfl ?_
          refine j_top (nI 1) rfl ?_
          refine j_if_eq 78 dX6_as_67 (by decide) (fun h => absurd h (by decide)) (fun _ => ?_)
          refine j_aload_n dX6_as_70 rfl rfl ?_
          refine j_iload_n dX6_as_71 rfl rfl ?_
          refine j_callV (m_fine (nI p)) dX6_as_72 rfl mv_X6_69 mH_o rfl ⟨(Nat.le_of_ble_eq_true rfl), (Nat.le_of_ble_eq_true rfl)⟩ ⟨(Nat.le_of_ble_eq_true rfl), (Nat.le_of_ble_eq_true rfl)⟩ (Nat.le_of_ble_eq_true rfl) ?_
          refine j_goto 83 dX6_as_75 (by decide) ?_
          exact j_iret rfl dX6_as_83 rfl rfl (Nat.le_of_ble_eq_true rfl) (Nat.le_of_ble_eq_true rfl)
        · refine j_iload_n dX6_as_48 rfl rfl ?_
          refine j_iconst (nI 4) dX6_as_49 rfl ?_
          refine j_icmp_geN 62 dX6_as_50 (by decide) (by omega) (by omega) (fun b50 => ?_) (fun b50 => ?_)
          · exfalso; omega
          · refine j_iload_n dX6_as_53 rfl rfl ?_
            refine j_iload_n dX6_as_54 rfl rfl ?_
            refine j_icmp_geN 62 dX6_as_55 (by decide) (by omega) (by omega) (fun b55 => ?_) (fun b55 => ?_)
            · exfalso; omega
            · refine j_iconst (nI 1) dX6_as_58 rfl ?_
              refine j_goto 63 dX6_as_59 (by decide) ?_
              refine j_istore dX6_as_63 (Nat.le_of_ble_eq_true rfl) rfl ?_
              refine j_iload dX6_as_65 rfl ?_
              refine j_top (nI 1) rfl ?_
              refine j_if_eq 78 dX6_as_67 (by decide) (fun h => absurd h (by decide)) (fun _ => ?_)
              refine j_aload_n dX6_as_70 rfl rfl ?_
              refine j_iload_n dX6_as_71 rfl rfl ?_
              refine j_callV (m_fine (nI p)) dX6_as_72 rfl mv_X6_69 mH_o rfl ⟨(Nat.le_of_ble_eq_true rfl), (Nat.le_of_ble_eq_true rfl)⟩ ⟨(Nat.le_of_ble_eq_true rfl), (Nat.le_of_ble_eq_true rfl)⟩ (Nat.le_of_ble_eq_true rfl) ?_
              refine j_goto 83 dX6_as_75 (by decide) ?_
              exact j_iret rfl dX6_as_83 rfl rfl (Nat.le_of_ble_eq_true rfl) (Nat.le_of_ble_eq_true rfl)
theorem m_cheats_ok (hN : sN d ≤ 7) (hu : 1 ≤ sU d) (hu2 : sU d ≤ 20) (hP : ∀ p, p < sN d → okP d p) : Ct G yX6_cheats cX6_cheats 3 (some .int) 5 0 0 z (mH σ (encT d) a1 a2 a3 a4 a5 a6 a7 a8 a9 a10 a11 i0 i1 i2 i3 i4 i5 i6 i7 i8 i9 i10 i11) [.ref 171] (some (.int (chI (sP d) (sD d) (sN d) (sU d) (sN d)))) z (mH σ (encT d) a1 a2 a3 a4 a5 a6 a7 a8 a9 a10 a11 i0 i1 i2 i3 i4 i5 i6 i7 i8 i9 i10 i11) := by
  refine Ct.ofJ RX6 rfl [some (.ref 171), none, none] rfl (by decide) (by simp [Value.category]) ?_
  refine j_aload_n dX6_cheats_0 rfl rfl ?_
  refine j_getf dX6_cheats_1 6 0 rfl (Nat.le_of_ble_eq_true rfl) fl_X6_7 in_6 mH_o rfl ?_
  refine j_iconst (nI 0) dX6_cheats_4 rfl ?_
  refine j_iald dX6_cheats_5 mH_a0 (k := 0) rfl (by omega) (by decide) ?_
  refine j_top (nI (sU d)) rfl ?_
  refine j_if_ne 12 dX6_cheats_6 (by decide) (fun b6 => ?_) (fun b6 => by exact absurd b6 (nI_ne0 (by omega) (by omega)))
  refine j_iconst (nI 0) dX6_cheats_12 rfl ?_
  refine j_istore_n dX6_cheats_13 rfl (Nat.le_of_ble_eq_true rfl) rfl ?_
  refine j_iconst (nI 0) dX6_cheats_14 rfl ?_
  refine j_istore_n dX6_cheats_15 rfl (Nat.le_of_ble_eq_true rfl) rfl ?_
  skip
  suffices H : ∀ (ki i : Nat), i ≤ (sN d) → (sN d) < i + ki → J G RX6 cX6_cheats 3 (some .int) (TQ G 5 0 0 (some (.int (chI (sP d) (sD d) (sN d) (sU d) (sN d)))) z (mH σ (encT d) a1 a2 a3 a4 a5 a6 a7 a8 a9 a10 a11 i0 i1 i2 i3 i4 i5 i6 i7 i8 i9 i10 i11)) z (mH σ (encT d) a1 a2 a3 a4 a5 a6 a7 a8 a9 a10 a11 i0 i1 i2 i3 i4 i5 i6 i7 i8 i9 i10 i11) 0 0 16 [some (.ref 171), some (.int (chI (sP d) (sD d) (sN d) (sU d) i)), some (.int (nI i))] [] from H ((sN d) + 1) 0 (by omega) (by omega)
  intro ki
  induction ki with
  | zero => intro i h1i h2i; exact absurd h2i (by omega)
  | succ ki ih =>
    intro i h1i h2i
    refine j_iload_n dX6_cheats_16 rfl rfl ?_
    refine j_aload_n dX6_cheats_17 rfl rfl ?_
    refine j_getf dX6_cheats_18 6 0 rfl (Nat.le_of_ble_eq_true rfl) fl_X6_7 in_6 mH_o rfl ?_
    refine j_iconst (nI 2) dX6_cheats_21 rfl ?_
    refine j_iald dX6_cheats_22 mH_a0 (k := 2) rfl (by omega) (by decide) ?_
    refine j_top (nI (sN d)) rfl ?_
    refine j_icmp_geN 58 dX6_cheats_23 (by decide) (by omega) (by omega) (fun b23 => ?_) (fun b23 => ?_)
    · obtain rfl : i = sN d := by omega
      refine j_iload_n dX6_cheats_58 rfl rfl ?_
      exact j_iret rfl dX6_cheats_59 rfl rfl (Nat.le_of_ble_eq_true rfl) (Nat.le_of_ble_eq_true rfl)
    · refine j_iload_n dX6_cheats_26 rfl rfl ?_
      refine j_aload_n dX6_cheats_27 rfl rfl ?_
      refine j_iload_n dX6_cheats_28 rfl rfl ?_
      refine j_callV (m_looks hN (by omega) hu hu2 (hP i (by omega))) dX6_cheats_29 rfl mv_X6_172 mH_o rfl ⟨(Nat.le_of_ble_eq_true rfl), (Nat.le_of_ble_eq_true rfl)⟩ ⟨(Nat.le_of_ble_eq_true rfl), (Nat.le_of_ble_eq_true rfl)⟩ (Nat.le_of_ble_eq_true rfl) ?_
      refine j_aload_n dX6_cheats_32 rfl rfl ?_
      refine j_getf dX6_cheats_33 6 0 rfl (Nat.le_of_ble_eq_true rfl) fl_X6_7 in_6 mH_o rfl ?_
      refine j_iload_n dX6_cheats_36 rfl rfl ?_
      refine j_callS (m_shadeIn mH_a0 hN (by omega) hu hu2) dX6_cheats_37 rfl ms_X6_155 ⟨(Nat.le_of_ble_eq_true rfl), (Nat.le_of_ble_eq_true rfl)⟩ ⟨(Nat.le_of_ble_eq_true rfl), (Nat.le_of_ble_eq_true rfl)⟩ (Nat.le_of_ble_eq_true rfl) ?_
      refine j_icmp_ge 49 dX6_cheats_40 (by decide) (fun b40 => ?_) (fun b40 => ?_)
      · refine j_iconst (nI 0) dX6_cheats_49 rfl ?_
        refine j_ior dX6_cheats_50 ?_
        refine j_top (chI (sP d) (sD d) (sN d) (sU d) (i + 1)) (by show _ = (if shd (sD d) (sN d) (sU d) i ≤ lks (sP d) (sD d) (sN d) (sU d) i then _ else _); first | rw [if_pos b40]; exact or_z _ | rw [if_neg b40]; rfl | done) ?_
        refine j_istore_n dX6_cheats_51 rfl (Nat.le_of_ble_eq_true rfl) rfl ?_
        first | refine j_iincN dX6_cheats_52 rfl (Nat.le_of_ble_eq_true rfl) rfl ?_ | refine j_iinc _ dX6_cheats_52 rfl rfl (Nat.le_of_ble_eq_true rfl) rfl ?_
        refine j_goto 16 dX6_cheats_55 (by decide) ?_
        exact ih (i + 1) (by omega) (by omega)
      · refine j_iconst (nI 1) dX6_cheats_43 rfl ?_
        refine j_iload_n dX6_cheats_44 rfl rfl ?_
        refine j_ishl dX6_cheats_45 ?_
        refine j_goto 50 dX6_cheats_46 (by decide) ?_
        refine j_ior dX6_cheats_50 ?_
        refine j_top (chI (sP d) (sD d) (sN d) (sU d) (i + 1)) (by show _ = (if shd (sD d) (sN d) (sU d) i ≤ lks (sP d) (sD d) (sN d) (sU d) i then _ else _); first | rw [if_pos b40]; exact or_z _ | rw [if_neg b40]; rfl | done) ?_
        refine j_istore_n dX6_cheats_51 rfl (Nat.le_of_ble_eq_true rfl) rfl ?_
        first | refine j_iincN dX6_cheats_52 rfl (Nat.le_of_ble_eq_true rfl) rfl ?_ | refine j_iinc _ dX6_cheats_52 rfl rfl (Nat.le_of_ble_eq_true rfl) rfl ?_
        refine j_goto 16 dX6_cheats_55 (by decide) ?_
        exact ih (i + 1) (by omega) (by omega)
theorem m_walk_ok {q : Nat} (hN : sN d ≤ 7) (hpq : p ≤ q) (hq : q < sN d) (hu : 1 ≤ sU d) (hu2 : sU d ≤ 20) (hP : ∀ p, p < sN d → okP d p) : Ct G yX6_walk cX6_walk 6 (some .int) 5 0 0 z (mH σ (encT d) a1 a2 a3 a4 a5 a6 a7 a8 a9 a10 a11 i0 i1 i2 i3 i4 i5 i6 i7 i8 i9 i10 i11) [.ref 171, .int (nI p), .int (nI q)] (some (.int (wlk (sP d) (sD d) (sH d) (sN d) (sU d) p (q + 1 - p)).1)) z (mH σ (encT d) a1 a2 a3 a4 a5 a6 a7 a8 a9 a10 a11 i0 i1 i2 i3 i4 i5 i6 i7 i8 i9 i10 i11) := by
  refine Ct.ofJ RX6 rfl [some (.ref 171), some (.int (nI p)), some (.int (nI q)), none, none, none] rfl (by decide) (by simp [Value.category]) ?_
  refine j_aload_n dX6_walk_0 rfl rfl ?_
  refine j_iload_n dX6_walk_1 rfl rfl ?_
  refine j_callV (m_one enc_n hN _) dX6_walk_2 rfl mv_X6_148 mH_o rfl ⟨(Nat.le_of_ble_eq_true rfl), (Nat.le_of_ble_eq_true rfl)⟩ ⟨(Nat.le_of_ble_eq_true rfl), (Nat.le_of_ble_eq_true rfl)⟩ (Nat.le_of_ble_eq_true rfl) ?_
  refine j_top (nI 1) (oneI_k (by omega) hN) ?_
  refine j_if_eq 21 dX6_walk_5 (by decide) (fun h => absurd h (by decide)) (fun _ => ?_)
  refine j_aload_n dX6_walk_8 rfl rfl ?_
  refine j_iload_n dX6_walk_9 rfl rfl ?_
  refine j_callV (m_one enc_n hN _) dX6_walk_10 rfl mv_X6_148 mH_o rfl ⟨(Nat.le_of_ble_eq_true rfl), (Nat.le_of_ble_eq_true rfl)⟩ ⟨(Nat.le_of_ble_eq_true rfl), (Nat.le_of_ble_eq_true rfl)⟩ (Nat.le_of_ble_eq_true rfl) ?_
  refine j_top (nI 1) (oneI_k hq hN) ?_
  refine j_if_eq 21 dX6_walk_13 (by decide) (fun h => absurd h (by decide)) (fun _ => ?_)
  refine j_iload_n dX6_walk_16 rfl rfl ?_
  refine j_iload_n dX6_walk_17 rfl rfl ?_
  refine j_icmp_leN 24 dX6_walk_18 (by decide) (by omega) (by omega) (fun b18 => ?_) (fun b18 => by exfalso; omega)
  refine j_ldc (-1000000) dX6_walk_24 kc_X6_204 ?_
  refine j_istore_n dX6_walk_26 rfl (Nat.le_of_ble_eq_true rfl) rfl ?_
  refine j_bipush (nI 10) dX6_walk_27 rfl ?_
  refine j_istore dX6_walk_29 (Nat.le_of_ble_eq_true rfl) rfl ?_
  refine j_iload_n dX6_walk_31 rfl rfl ?_
  refine j_istore dX6_walk_32 (Nat.le_of_ble_eq_true rfl) rfl ?_
  suffices H : ∀ (kk k : Nat), k ≤ q + 1 - p → q + 1 - p < k + kk → J G RX6 cX6_walk 6 (some .int) (TQ G 5 0 0 (some (.int (wlk (sP d) (sD d) (sH d) (sN d) (sU d) p (q + 1 - p)).1)) z (mH σ (encT d) a1 a2 a3 a4 a5 a6 a7 a8 a9 a10 a11 i0 i1 i2 i3 i4 i5 i6 i7 i8 i9 i10 i11)) z (mH σ (encT d) a1 a2 a3 a4 a5 a6 a7 a8 a9 a10 a11 i0 i1 i2 i3 i4 i5 i6 i7 i8 i9 i10 i11) 0 0 34 [some (.ref 171), some (.int (nI p)), some (.int (nI q)), some (.int (wlk (sP d) (sD d) (sH d) (sN d) (sU d) p k).1), some (.int (wlk (sP d) (sD d) (sH d) (sN d) (sU d) p k).2), some (.int (nI (p + k)))] [] from H (q + 1 - p + 1) 0 (by omega) (by omega)
  intro kk
  induction kk with
  | zero => intro k h1 h2; exact absurd h2 (by omega)
  | succ kk ih =>
    intro k h1 h2
    have hs : wlk (sP d) (sD d) (sH d) (sN d) (sU d) p (k + 1) = if bitI (sH d) (nI (p + k)) = 0 ∧ lks (sP d) (sD d) (sN d) (sU d) (p + k) < (wlk (sP d) (sD d) (sH d) (sN d) (sU d) p k).2 then (nI (p + k), lks (sP d) (sD d) (sN d) (sU d) (p + k)) else wlk (sP d) (sD d) (sH d) (sN d) (sU d) p k := rfl
    refine j_iload dX6_walk_34 rfl ?_
    refine j_iload_n dX6_walk_36 rfl rfl ?_
    refine j_icmp_gtN 81 dX6_walk_37 (by decide) (by omega) (by omega) (fun b37 => ?_) (fun b37 => ?_)
    · obtain rfl : k = q + 1 - p := by omega
      refine j_iload_n dX6_walk_81 rfl rfl ?_
      exact j_iret rfl dX6_walk_82 rfl rfl (Nat.le_of_ble_eq_true rfl) (Nat.le_of_ble_eq_true rfl)
    · refine j_aload_n dX6_walk_40 rfl rfl ?_
      refine j_getf dX6_walk_41 6 0 rfl (Nat.le_of_ble_eq_true rfl) fl_X6_7 in_6 mH_o rfl ?_
      refine j_bipush (nI 18) dX6_walk_44 rfl ?_
      refine j_iload dX6_walk_46 rfl ?_
      first | refine j_iaddN dX6_walk_48 ?_ | refine j_iadd dX6_walk_48 ?_
      refine j_iald dX6_walk_49 mH_a0 rfl (by omega) (by decide) ?_
      refine j_top _ (enc_h hN (by omega)) ?_
      refine j_if_ne 75 dX6_walk_50 (by decide) (fun b50 => ?_) (fun b50 => ?_)
      · first | refine j_iincN dX6_walk_75 rfl (Nat.le_of_ble_eq_true rfl) rfl ?_ | refine j_iinc _ dX6_walk_75 rfl rfl (Nat.le_of_ble_eq_true rfl) rfl ?_
        refine j_goto 34 dX6_walk_78 (by decide) ?_
        refine Eq.mp ?_ (ih (k + 1) (by omega) (by omega))
        rw [hs]
        first | (rw [if_pos ⟨b50, Int32.not_le.mp b61⟩]; rfl) | (rw [if_neg (fun w => absurd w.2 (Int32.not_lt.mpr b61))]; rfl) | (rw [if_neg (fun w => b50 w.1)]; rfl) | done
      · refine j_aload_n dX6_walk_53 rfl rfl ?_
        refine j_iload dX6_walk_54 rfl ?_
        refine j_callV (m_looks hN (by omega) hu hu2 (hP _ (by omega))) dX6_walk_56 rfl mv_X6_172 mH_o rfl ⟨(Nat.le_of_ble_eq_true rfl), (Nat.le_of_ble_eq_true rfl)⟩ ⟨(Nat.le_of_ble_eq_true rfl), (Nat.le_of_ble_eq_true rfl)⟩ (Nat.le_of_ble_eq_true rfl) ?_
        refine j_iload dX6_walk_59 rfl ?_
        refine j_icmp_ge 75 dX6_walk_61 (by decide) (fun b61 => ?_) (fun b61 => ?_)
        · first | refine j_iincN dX6_walk_75 rfl (Nat.le_of_ble_eq_true rfl) rfl ?_ | refine j_iinc _ dX6_walk_75 rfl rfl (Nat.le_of_ble_eq_true rfl) rfl ?_
          refine j_goto 34 dX6_walk_78 (by decide) ?_
          refine Eq.mp ?_ (ih (k + 1) (by omega) (by omega))
          rw [hs]
          first | (rw [if_pos ⟨b50, Int32.not_le.mp b61⟩]; rfl) | (rw [if_neg (fun w => absurd w.2 (Int32.not_lt.mpr b61))]; rfl) | (rw [if_neg (fun w => b50 w.1)]; rfl) | done
        · refine j_iload dX6_walk_64 rfl ?_
          refine j_istore_n dX6_walk_66 rfl (Nat.le_of_ble_eq_true rfl) rfl ?_
          refine j_aload_n dX6_walk_67 rfl rfl ?_
          refine j_iload dX6_walk_68 rfl ?_
          refine j_callV (m_looks hN (by omega) hu hu2 (hP _ (by omega))) dX6_walk_70 rfl mv_X6_172 mH_o rfl ⟨(Nat.le_of_ble_eq_true rfl), (Nat.le_of_ble_eq_true rfl)⟩ ⟨(Nat.le_of_ble_eq_true rfl), (Nat.le_of_ble_eq_true rfl)⟩ (Nat.le_of_ble_eq_true rfl) ?_
          refine j_istore dX6_walk_73 (Nat.le_of_ble_eq_true rfl) rfl ?_
          first | refine j_iincN dX6_walk_75 rfl (Nat.le_of_ble_eq_true rfl) rfl ?_ | refine j_iinc _ dX6_walk_75 rfl rfl (Nat.le_of_ble_eq_true rfl) rfl ?_
          refine j_goto 34 dX6_walk_78 (by decide) ?_
          refine Eq.mp ?_ (ih (k + 1) (by omega) (by omega))
          rw [hs]
          first | (rw [if_pos ⟨b50, Int32.not_le.mp b61⟩]; rfl) | (rw [if_neg (fun w => absurd w.2 (Int32.not_lt.mpr b61))]; rfl) | (rw [if_neg (fun w => b50 w.1)]; rfl) | done
end M7

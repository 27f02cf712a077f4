/-! THE MODEL: law, people, debts, a town -/
theorem dX6_law_0 : decode cX6_law 0 = .ok (.aload_n 0, 1) := by decide +kernel
theorem dX6_law_1 : decode cX6_law 1 = .ok (.getfield 90, 3) := by decide +kernel
theorem dX6_law_4 : decode cX6_law 4 = .ok (.iconst 4, 1) := by decide +kernel
theorem dX6_law_5 : decode cX6_law 5 = .ok (.if_icmp .eq 9, 3) := by decide +kernel
theorem dX6_law_8 : decode cX6_law 8 = .ok (.aload_n 0, 1) := by decide +kernel
theorem dX6_law_9 : decode cX6_law 9 = .ok (.iconst 1, 1) := by decide +kernel
theorem dX6_law_10 : decode cX6_law 10 = .ok (.invokevirtual 113, 3) := by decide +kernel
theorem dX6_law_13 : decode cX6_law 13 = .ok (.ireturn, 1) := by decide +kernel
theorem dX6_law_14 : decode cX6_law 14 = .ok (.aload_n 0, 1) := by decide +kernel
theorem dX6_law_15 : decode cX6_law 15 = .ok (.invokevirtual 119, 3) := by decide +kernel
theorem dX6_law_18 : decode cX6_law 18 = .ok (.aload_n 0, 1) := by decide +kernel
theorem dX6_law_19 : decode cX6_law 19 = .ok (.iconst 1, 1) := by decide +kernel
theorem dX6_law_20 : decode cX6_law 20 = .ok (.bipush 20, 2) := by decide +kernel
theorem dX6_law_22 : decode cX6_law 22 = .ok (.invokevirtual 122, 3) := by decide +kernel
theorem dX6_law_25 : decode cX6_law 25 = .ok (.ifCond .ne 5, 3) := by decide +kernel
theorem dX6_law_28 : decode cX6_law 28 = .ok (.iconst 0, 1) := by decide +kernel
theorem dX6_law_29 : decode cX6_law 29 = .ok (.ireturn, 1) := by decide +kernel
theorem dX6_law_30 : decode cX6_law 30 = .ok (.aload_n 0, 1) := by decide +kernel
theorem dX6_law_31 : decode cX6_law 31 = .ok (.getfield 13, 3) := by decide +kernel
theorem dX6_law_34 : decode cX6_law 34 = .ok (.iconst 0, 1) := by decide +kernel
theorem dX6_law_35 : decode cX6_law 35 = .ok (.aload_n 0, 1) := by decide +kernel
theorem dX6_law_36 : decode cX6_law 36 = .ok (.getfield 116, 3) := by decide +kernel
theorem dX6_law_39 : decode cX6_law 39 = .ok (.iastore, 1) := by decide +kernel
theorem dX6_law_40 : decode cX6_law 40 = .ok (.aload_n 0, 1) := by decide +kernel
theorem dX6_law_41 : decode cX6_law 41 = .ok (.iconst 0, 1) := by decide +kernel
theorem dX6_law_42 : decode cX6_law 42 = .ok (.bipush 20, 2) := by decide +kernel
theorem dX6_law_44 : decode cX6_law 44 = .ok (.invokevirtual 122, 3) := by decide +kernel
theorem dX6_law_47 : decode cX6_law 47 = .ok (.ifCond .ne 5, 3) := by decide +kernel
theorem dX6_law_50 : decode cX6_law 50 = .ok (.iconst 0, 1) := by decide +kernel
theorem dX6_law_51 : decode cX6_law 51 = .ok (.ireturn, 1) := by decide +kernel
theorem dX6_law_52 : decode cX6_law 52 = .ok (.aload_n 0, 1) := by decide +kernel
theorem dX6_law_53 : decode cX6_law 53 = .ok (.getfield 13, 3) := by decide +kernel
theorem dX6_law_56 : decode cX6_law 56 = .ok (.iconst 1, 1) := by decide +kernel
theorem dX6_law_57 : decode cX6_law 57 = .ok (.aload_n 0, 1) := by decide +kernel
theorem dX6_law_58 : decode cX6_law 58 = .ok (.getfield 116, 3) := by decide +kernel
theorem dX6_law_61 : decode cX6_law 61 = .ok (.iastore, 1) := by decide +kernel
theorem dX6_law_62 : decode cX6_law 62 = .ok (.aload_n 0, 1) := by decide +kernel
theorem dX6_law_63 : decode cX6_law 63 = .ok (.invokevirtual 125, 3) := by decide +kernel
theorem dX6_law_66 : decode cX6_law 66 = .ok (.ireturn, 1) := by decide +kernel
theorem dX6_person_0 : decode cX6_person 0 = .ok (.aload_n 0, 1) := by decide +kernel
theorem dX6_person_1 : decode cX6_person 1 = .ok (.getfield 13, 3) := by decide +kernel
theorem dX6_person_4 : decode cX6_person 4 = .ok (.iconst 2, 1) := by decide +kernel
theorem dX6_person_5 : decode cX6_person 5 = .ok (.iaload, 1) := by decide +kernel
theorem dX6_person_6 : decode cX6_person 6 = .ok (.bipush 7, 2) := by decide +kernel
theorem dX6_person_8 : decode cX6_person 8 = .ok (.if_icmp .ne 9, 3) := by decide +kernel
theorem dX6_person_11 : decode cX6_person 11 = .ok (.aload_n 0, 1) := by decide +kernel
theorem dX6_person_12 : decode cX6_person 12 = .ok (.iconst 3, 1) := by decide +kernel
theorem dX6_person_13 : decode cX6_person 13 = .ok (.invokevirtual 113, 3) := by decide +kernel
theorem dX6_person_16 : decode cX6_person 16 = .ok (.ireturn, 1) := by decide +kernel
theorem dX6_person_17 : decode cX6_person 17 = .ok (.aload_n 0, 1) := by decide +kernel
theorem dX6_person_18 : decode cX6_person 18 = .ok (.getfield 13, 3) := by decide +kernel
theorem dX6_person_21 : decode cX6_person 21 = .ok (.iconst 2, 1) := by decide +kernel
theorem dX6_person_22 : decode cX6_person 22 = .ok (.iaload, 1) := by decide +kernel
theorem dX6_person_23 : decode cX6_person 23 = .ok (.istore_n 1, 1) := by decide +kernel
theorem dX6_person_24 : decode cX6_person 24 = .ok (.aload_n 0, 1) := by decide +kernel
theorem dX6_person_25 : decode cX6_person 25 = .ok (.invokevirtual 119, 3) := by decide +kernel
theorem dX6_person_28 : decode cX6_person 28 = .ok (.aload_n 0, 1) := by decide +kernel
theorem dX6_person_29 : decode cX6_person 29 = .ok (.iconst 0, 1) := by decide +kernel
theorem dX6_person_30 : decode cX6_person 30 = .ok (.sipush 999, 3) := by decide +kernel
theorem dX6_person_33 : decode cX6_person 33 = .ok (.invokevirtual 122, 3) := by decide +kernel
theorem dX6_person_36 : decode cX6_person 36 = .ok (.ifCond .ne 5, 3) := by decide +kernel
theorem dX6_person_39 : decode cX6_person 39 = .ok (.iconst 0, 1) := by decide +kernel
theorem dX6_person_40 : decode cX6_person 40 = .ok (.ireturn, 1) := by decide +kernel
theorem dX6_person_41 : decode cX6_person 41 = .ok (.aload_n 0, 1) := by decide +kernel
theorem dX6_person_42 : decode cX6_person 42 = .ok (.getfield 13, 3) := by decide +kernel
theorem dX6_person_45 : decode cX6_person 45 = .ok (.iconst 4, 1) := by decide +kernel
theorem dX6_person_46 : decode cX6_person 46 = .ok (.iload_n 1, 1) := by decide +kernel
theorem dX6_person_47 : decode cX6_person 47 = .ok (.iadd, 1) := by decide +kernel
theorem dX6_person_48 : decode cX6_person 48 = .ok (.aload_n 0, 1) := by decide +kernel
theorem dX6_person_49 : decode cX6_person 49 = .ok (.getfield 116, 3) := by decide +kernel
theorem dX6_person_52 : decode cX6_person 52 = .ok (.iastore, 1) := by decide +kernel
theorem dX6_person_53 : decode cX6_person 53 = .ok (.aload_n 0, 1) := by decide +kernel
theorem dX6_person_54 : decode cX6_person 54 = .ok (.iconst 0, 1) := by decide +kernel
theorem dX6_person_55 : decode cX6_person 55 = .ok (.bipush 99, 2) := by decide +kernel
theorem dX6_person_57 : decode cX6_person 57 = .ok (.invokevirtual 122, 3) := by decide +kernel
theorem dX6_person_60 : decode cX6_person 60 = .ok (.ifCond .ne 5, 3) := by decide +kernel
theorem dX6_person_63 : decode cX6_person 63 = .ok (.iconst 0, 1) := by decide +kernel
theorem dX6_person_64 : decode cX6_person 64 = .ok (.ireturn, 1) := by decide +kernel
theorem dX6_person_65 : decode cX6_person 65 = .ok (.aload_n 0, 1) := by decide +kernel
theorem dX6_person_66 : decode cX6_person 66 = .ok (.getfield 13, 3) := by decide +kernel
theorem dX6_person_69 : decode cX6_person 69 = .ok (.bipush 11, 2) := by decide +kernel
theorem dX6_person_71 : decode cX6_person 71 = .ok (.iload_n 1, 1) := by decide +kernel
theorem dX6_person_72 : decode cX6_person 72 = .ok (.iadd, 1) := by decide +kernel
theorem dX6_person_73 : decode cX6_person 73 = .ok (.aload_n 0, 1) := by decide +kernel
theorem dX6_person_74 : decode cX6_person 74 = .ok (.getfield 116, 3) := by decide +kernel
theorem dX6_person_77 : decode cX6_person 77 = .ok (.iastore, 1) := by decide +kernel
theorem dX6_person_78 : decode cX6_person 78 = .ok (.aload_n 0, 1) := by decide +kernel
theorem dX6_person_79 : decode cX6_person 79 = .ok (.getfield 90, 3) := by decide +kernel
theorem dX6_person_82 : decode cX6_person 82 = .ok (.bipush 7, 2) := by decide +kernel
theorem dX6_person_84 : decode cX6_person 84 = .ok (.if_icmp .eq 18, 3) := by decide +kernel
theorem dX6_person_87 : decode cX6_person 87 = .ok (.aload_n 0, 1) := by decide +kernel
theorem dX6_person_88 : decode cX6_person 88 = .ok (.getfield 90, 3) := by decide +kernel
theorem dX6_person_91 : decode cX6_person 91 = .ok (.bipush 8, 2) := by decide +kernel
theorem dX6_person_93 : decode cX6_person 93 = .ok (.if_icmp .eq 9, 3) := by decide +kernel
theorem dX6_person_96 : decode cX6_person 96 = .ok (.aload_n 0, 1) := by decide +kernel
theorem dX6_person_97 : decode cX6_person 97 = .ok (.iconst 1, 1) := by decide +kernel
theorem dX6_person_98 : decode cX6_person 98 = .ok (.invokevirtual 113, 3) := by decide +kernel
theorem dX6_person_101 : decode cX6_person 101 = .ok (.ireturn, 1) := by decide +kernel
theorem dX6_person_102 : decode cX6_person 102 = .ok (.aload_n 0, 1) := by decide +kernel
theorem dX6_person_103 : decode cX6_person 103 = .ok (.getfield 13, 3) := by decide +kernel
theorem dX6_person_106 : decode cX6_person 106 = .ok (.bipush 18, 2) := by decide +kernel
theorem dX6_person_108 : decode cX6_person 108 = .ok (.iload_n 1, 1) := by decide +kernel
theorem dX6_person_109 : decode cX6_person 109 = .ok (.iadd, 1) := by decide +kernel
theorem dX6_person_110 : decode cX6_person 110 = .ok (.aload_n 0, 1) := by decide +kernel
theorem dX6_person_111 : decode cX6_person 111 = .ok (.getfield 90, 3) := by decide +kernel
theorem dX6_person_114 : decode cX6_person 114 = .ok (.bipush 8, 2) := by decide +kernel
theorem dX6_person_116 : decode cX6_person 116 = .ok (.if_icmp .ne 7, 3) := by decide +kernel
theorem dX6_person_119 : decode cX6_person 119 = .ok (.iconst 1, 1) := by decide +kernel
theorem dX6_person_120 : decode cX6_person 120 = .ok (.goto 4, 3) := by decide +kernel
theorem dX6_person_123 : decode cX6_person 123 = .ok (.iconst 0, 1) := by decide +kernel
theorem dX6_person_124 : decode cX6_person 124 = .ok (.iastore, 1) := by decide +kernel
theorem dX6_person_125 : decode cX6_person 125 = .ok (.aload_n 0, 1) := by decide +kernel
theorem dX6_person_126 : decode cX6_person 126 = .ok (.getfield 13, 3) := by decide +kernel
theorem dX6_person_129 : decode cX6_person 129 = .ok (.bipush 25, 2) := by decide +kernel
theorem dX6_person_131 : decode cX6_person 131 = .ok (.iload_n 1, 1) := by decide +kernel
theorem dX6_person_132 : decode cX6_person 132 = .ok (.iadd, 1) := by decide +kernel
theorem dX6_person_133 : decode cX6_person 133 = .ok (.bipush 10, 2) := by decide +kernel
theorem dX6_person_135 : decode cX6_person 135 = .ok (.iastore, 1) := by decide +kernel
theorem dX6_person_136 : decode cX6_person 136 = .ok (.aload_n 0, 1) := by decide +kernel
theorem dX6_person_137 : decode cX6_person 137 = .ok (.getfield 13, 3) := by decide +kernel
theorem dX6_person_140 : decode cX6_person 140 = .ok (.iconst 2, 1) := by decide +kernel
theorem dX6_person_141 : decode cX6_person 141 = .ok (.dup2, 1) := by decide +kernel
theorem dX6_person_142 : decode cX6_person 142 = .ok (.iaload, 1) := by decide +kernel
theorem dX6_person_143 : decode cX6_person 143 = .ok (.iconst 1, 1) := by decide +kernel
theorem dX6_person_144 : decode cX6_person 144 = .ok (.iadd, 1) := by decide +kernel
theorem dX6_person_145 : decode cX6_person 145 = .ok (.iastore, 1) := by decide +kernel
theorem dX6_person_146 : decode cX6_person 146 = .ok (.aload_n 0, 1) := by decide +kernel
theorem dX6_person_147 : decode cX6_person 147 = .ok (.invokevirtual 119, 3) := by decide +kernel
theorem dX6_person_150 : decode cX6_person 150 = .ok (.aload_n 0, 1) := by decide +kernel
theorem dX6_person_151 : decode cX6_person 151 = .ok (.invokevirtual 125, 3) := by decide +kernel
theorem dX6_person_154 : decode cX6_person 154 = .ok (.ireturn, 1) := by decide +kernel
theorem dX6_debt_0 : decode cX6_debt 0 = .ok (.iload_n 1, 1) := by decide +kernel
theorem dX6_debt_1 : decode cX6_debt 1 = .ok (.bipush 20, 2) := by decide +kernel
theorem dX6_debt_3 : decode cX6_debt 3 = .ok (.if_icmp .ne 9, 3) := by decide +kernel
theorem dX6_debt_6 : decode cX6_debt 6 = .ok (.aload_n 0, 1) := by decide +kernel
theorem dX6_debt_7 : decode cX6_debt 7 = .ok (.iconst 3, 1) := by decide +kernel
theorem dX6_debt_8 : decode cX6_debt 8 = .ok (.invokevirtual 113, 3) := by decide +kernel
theorem dX6_debt_11 : decode cX6_debt 11 = .ok (.ireturn, 1) := by decide +kernel
theorem dX6_debt_12 : decode cX6_debt 12 = .ok (.aload_n 0, 1) := by decide +kernel
theorem dX6_debt_13 : decode cX6_debt 13 = .ok (.invokevirtual 119, 3) := by decide +kernel
theorem dX6_debt_16 : decode cX6_debt 16 = .ok (.aload_n 0, 1) := by decide +kernel
theorem dX6_debt_17 : decode cX6_debt 17 = .ok (.iconst 0, 1) := by decide +kernel
theorem dX6_debt_18 : decode cX6_debt 18 = .ok (.aload_n 0, 1) := by decide +kernel
theorem dX6_debt_19 : decode cX6_debt 19 = .ok (.getfield 13, 3) := by decide +kernel
theorem dX6_debt_22 : decode cX6_debt 22 = .ok (.iconst 2, 1) := by decide +kernel
theorem dX6_debt_23 : decode cX6_debt 23 = .ok (.iaload, 1) := by decide +kernel
theorem dX6_debt_24 : decode cX6_debt 24 = .ok (.iconst 1, 1) := by decide +kernel
theorem dX6_debt_25 : decode cX6_debt 25 = .ok (.isub, 1) := by decide +kernel
theorem dX6_debt_26 : decode cX6_debt 26 = .ok (.invokevirtual 122, 3) := by decide +kernel
theorem dX6_debt_29 : decode cX6_debt 29 = .ok (.ifCond .ne 5, 3) := by decide +kernel
theorem dX6_debt_32 : decode cX6_debt 32 = .ok (.iconst 0, 1) := by decide +kernel
theorem dX6_debt_33 : decode cX6_debt 33 = .ok (.ireturn, 1) := by decide +kernel
theorem dX6_debt_34 : decode cX6_debt 34 = .ok (.aload_n 0, 1) := by decide +kernel
theorem dX6_debt_35 : decode cX6_debt 35 = .ok (.getfield 116, 3) := by decide +kernel
theorem dX6_debt_38 : decode cX6_debt 38 = .ok (.istore_n 2, 1) := by decide +kernel
theorem dX6_debt_39 : decode cX6_debt 39 = .ok (.aload_n 0, 1) := by decide +kernel
theorem dX6_debt_40 : decode cX6_debt 40 = .ok (.getfield 90, 3) := by decide +kernel
theorem dX6_debt_43 : decode cX6_debt 43 = .ok (.iconst 2, 1) := by decide +kernel
theorem dX6_debt_44 : decode cX6_debt 44 = .ok (.if_icmp .ne 17, 3) := by decide +kernel
theorem dX6_debt_47 : decode cX6_debt 47 = .ok (.aload_n 0, 1) := by decide +kernel
theorem dX6_debt_48 : decode cX6_debt 48 = .ok (.getfield 107, 3) := by decide +kernel
theorem dX6_debt_51 : decode cX6_debt 51 = .ok (.iload_n 2, 1) := by decide +kernel
theorem dX6_debt_52 : decode cX6_debt 52 = .ok (.if_icmp .ne 9, 3) := by decide +kernel
theorem dX6_debt_55 : decode cX6_debt 55 = .ok (.aload_n 0, 1) := by decide +kernel
theorem dX6_debt_56 : decode cX6_debt 56 = .ok (.iconst 2, 1) := by decide +kernel
theorem dX6_debt_57 : decode cX6_debt 57 = .ok (.invokevirtual 113, 3) := by decide +kernel
theorem dX6_debt_60 : decode cX6_debt 60 = .ok (.ireturn, 1) := by decide +kernel
theorem dX6_debt_61 : decode cX6_debt 61 = .ok (.aload_n 0, 1) := by decide +kernel
theorem dX6_debt_62 : decode cX6_debt 62 = .ok (.iconst 0, 1) := by decide +kernel
theorem dX6_debt_63 : decode cX6_debt 63 = .ok (.aload_n 0, 1) := by decide +kernel
theorem dX6_debt_64 : decode cX6_debt 64 = .ok (.getfield 13, 3) := by decide +kernel
theorem dX6_debt_67 : decode cX6_debt 67 = .ok (.iconst 2, 1) := by decide +kernel
theorem dX6_debt_68 : decode cX6_debt 68 = .ok (.iaload, 1) := by decide +kernel
theorem dX6_debt_69 : decode cX6_debt 69 = .ok (.iconst 1, 1) := by decide +kernel
theorem dX6_debt_70 : decode cX6_debt 70 = .ok (.isub, 1) := by decide +kernel
theorem dX6_debt_71 : decode cX6_debt 71 = .ok (.invokevirtual 122, 3) := by decide +kernel
theorem dX6_debt_74 : decode cX6_debt 74 = .ok (.ifCond .ne 5, 3) := by decide +kernel
theorem dX6_debt_77 : decode cX6_debt 77 = .ok (.iconst 0, 1) := by decide +kernel
theorem dX6_debt_78 : decode cX6_debt 78 = .ok (.ireturn, 1) := by decide +kernel
theorem dX6_debt_79 : decode cX6_debt 79 = .ok (.aload_n 0, 1) := by decide +kernel
theorem dX6_debt_80 : decode cX6_debt 80 = .ok (.getfield 116, 3) := by decide +kernel
theorem dX6_debt_83 : decode cX6_debt 83 = .ok (.istore_n 3, 1) := by decide +kernel
theorem dX6_debt_84 : decode cX6_debt 84 = .ok (.aload_n 0, 1) := by decide +kernel
theorem dX6_debt_85 : decode cX6_debt 85 = .ok (.iconst 1, 1) := by decide +kernel
theorem dX6_debt_86 : decode cX6_debt 86 = .ok (.sipush 999, 3) := by decide +kernel
theorem dX6_debt_89 : decode cX6_debt 89 = .ok (.invokevirtual 122, 3) := by decide +kernel
theorem dX6_debt_92 : decode cX6_debt 92 = .ok (.ifCond .ne 5, 3) := by decide +kernel
theorem dX6_debt_95 : decode cX6_debt 95 = .ok (.iconst 0, 1) := by decide +kernel
theorem dX6_debt_96 : decode cX6_debt 96 = .ok (.ireturn, 1) := by decide +kernel
theorem dX6_debt_97 : decode cX6_debt 97 = .ok (.aload_n 0, 1) := by decide +kernel
theorem dX6_debt_98 : decode cX6_debt 98 = .ok (.getfield 13, 3) := by decide +kernel
theorem dX6_debt_101 : decode cX6_debt 101 = .ok (.bipush 40, 2) := by decide +kernel
theorem dX6_debt_103 : decode cX6_debt 103 = .ok (.bipush 7, 2) := by decide +kernel
theorem dX6_debt_105 : decode cX6_debt 105 = .ok (.iload_n 2, 1) := by decide +kernel
theorem dX6_debt_106 : decode cX6_debt 106 = .ok (.imul, 1) := by decide +kernel
theorem dX6_debt_107 : decode cX6_debt 107 = .ok (.iadd, 1) := by decide +kernel
theorem dX6_debt_108 : decode cX6_debt 108 = .ok (.iload_n 3, 1) := by decide +kernel
theorem dX6_debt_109 : decode cX6_debt 109 = .ok (.iadd, 1) := by decide +kernel
theorem dX6_debt_110 : decode cX6_debt 110 = .ok (.dup2, 1) := by decide +kernel
theorem dX6_debt_111 : decode cX6_debt 111 = .ok (.iaload, 1) := by decide +kernel
theorem dX6_debt_112 : decode cX6_debt 112 = .ok (.aload_n 0, 1) := by decide +kernel
theorem dX6_debt_113 : decode cX6_debt 113 = .ok (.getfield 116, 3) := by decide +kernel
theorem dX6_debt_116 : decode cX6_debt 116 = .ok (.iadd, 1) := by decide +kernel
theorem dX6_debt_117 : decode cX6_debt 117 = .ok (.iastore, 1) := by decide +kernel
theorem dX6_debt_118 : decode cX6_debt 118 = .ok (.aload_n 0, 1) := by decide +kernel
theorem dX6_debt_119 : decode cX6_debt 119 = .ok (.invokevirtual 125, 3) := by decide +kernel
theorem dX6_debt_122 : decode cX6_debt 122 = .ok (.ireturn, 1) := by decide +kernel
theorem dX6_reads_0 : decode cX6_reads 0 = .ok (.aload_n 0, 1) := by decide +kernel
theorem dX6_reads_1 : decode cX6_reads 1 = .ok (.iconst 0, 1) := by decide +kernel
theorem dX6_reads_2 : decode cX6_reads 2 = .ok (.putfield 80, 3) := by decide +kernel
theorem dX6_reads_5 : decode cX6_reads 5 = .ok (.iconst 0, 1) := by decide +kernel
theorem dX6_reads_6 : decode cX6_reads 6 = .ok (.istore_n 1, 1) := by decide +kernel
theorem dX6_reads_7 : decode cX6_reads 7 = .ok (.iload_n 1, 1) := by decide +kernel
theorem dX6_reads_8 : decode cX6_reads 8 = .ok (.bipush 96, 2) := by decide +kernel
theorem dX6_reads_10 : decode cX6_reads 10 = .ok (.if_icmp .ge 16, 3) := by decide +kernel
theorem dX6_reads_13 : decode cX6_reads 13 = .ok (.aload_n 0, 1) := by decide +kernel
theorem dX6_reads_14 : decode cX6_reads 14 = .ok (.getfield 13, 3) := by decide +kernel
theorem dX6_reads_17 : decode cX6_reads 17 = .ok (.iload_n 1, 1) := by decide +kernel
theorem dX6_reads_18 : decode cX6_reads 18 = .ok (.iconst 0, 1) := by decide +kernel
theorem dX6_reads_19 : decode cX6_reads 19 = .ok (.iastore, 1) := by decide +kernel
theorem dX6_reads_20 : decode cX6_reads 20 = .ok (.iinc 1 1, 3) := by decide +kernel
theorem dX6_reads_23 : decode cX6_reads 23 = .ok (.goto (-16), 3) := by decide +kernel
theorem dX6_reads_26 : decode cX6_reads 26 = .ok (.aload_n 0, 1) := by decide +kernel
theorem dX6_reads_27 : decode cX6_reads 27 = .ok (.invokevirtual 119, 3) := by decide +kernel
theorem dX6_reads_30 : decode cX6_reads 30 = .ok (.aload_n 0, 1) := by decide +kernel
theorem dX6_reads_31 : decode cX6_reads 31 = .ok (.invokevirtual 129, 3) := by decide +kernel
theorem dX6_reads_34 : decode cX6_reads 34 = .ok (.ifCond .ne 5, 3) := by decide +kernel
theorem dX6_reads_37 : decode cX6_reads 37 = .ok (.iconst 0, 1) := by decide +kernel
theorem dX6_reads_38 : decode cX6_reads 38 = .ok (.ireturn, 1) := by decide +kernel
theorem dX6_reads_39 : decode cX6_reads 39 = .ok (.aload_n 0, 1) := by decide +kernel
theorem dX6_reads_40 : decode cX6_reads 40 = .ok (.getfield 90, 3) := by decide +kernel
theorem dX6_reads_43 : decode cX6_reads 43 = .ok (.iconst 5, 1) := by decide +kernel
theorem dX6_reads_44 : decode cX6_reads 44 = .ok (.if_icmp .eq 9, 3) := by decide +kernel
theorem dX6_reads_47 : decode cX6_reads 47 = .ok (.aload_n 0, 1) := by decide +kernel
theorem dX6_reads_48 : decode cX6_reads 48 = .ok (.iconst 1, 1) := by decide +kernel
theorem dX6_reads_49 : decode cX6_reads 49 = .ok (.invokevirtual 113, 3) := by decide +kernel
theorem dX6_reads_52 : decode cX6_reads 52 = .ok (.ireturn, 1) := by decide +kernel
theorem dX6_reads_53 : decode cX6_reads 53 = .ok (.aload_n 0, 1) := by decide +kernel
theorem dX6_reads_54 : decode cX6_reads 54 = .ok (.getfield 90, 3) := by decide +kernel
theorem dX6_reads_57 : decode cX6_reads 57 = .ok (.iconst 5, 1) := by decide +kernel
theorem dX6_reads_58 : decode cX6_reads 58 = .ok (.if_icmp .ne 12, 3) := by decide +kernel
theorem dX6_reads_61 : decode cX6_reads 61 = .ok (.aload_n 0, 1) := by decide +kernel
theorem dX6_reads_62 : decode cX6_reads 62 = .ok (.invokevirtual 132, 3) := by decide +kernel
theorem dX6_reads_65 : decode cX6_reads 65 = .ok (.ifCond .ne (-12), 3) := by decide +kernel
theorem dX6_reads_68 : decode cX6_reads 68 = .ok (.iconst 0, 1) := by decide +kernel
theorem dX6_reads_69 : decode cX6_reads 69 = .ok (.ireturn, 1) := by decide +kernel
theorem dX6_reads_70 : decode cX6_reads 70 = .ok (.iconst 0, 1) := by decide +kernel
theorem dX6_reads_71 : decode cX6_reads 71 = .ok (.istore_n 1, 1) := by decide +kernel
theorem dX6_reads_72 : decode cX6_reads 72 = .ok (.aload_n 0, 1) := by decide +kernel
theorem dX6_reads_73 : decode cX6_reads 73 = .ok (.getfield 90, 3) := by decide +kernel
theorem dX6_reads_76 : decode cX6_reads 76 = .ok (.bipush 6, 2) := by decide +kernel
theorem dX6_reads_78 : decode cX6_reads 78 = .ok (.if_icmp .ne 19, 3) := by decide +kernel
theorem dX6_reads_81 : decode cX6_reads 81 = .ok (.aload_n 0, 1) := by decide +kernel
theorem dX6_reads_82 : decode cX6_reads 82 = .ok (.iload_n 1, 1) := by decide +kernel
theorem dX6_reads_83 : decode cX6_reads 83 = .ok (.invokevirtual 135, 3) := by decide +kernel
theorem dX6_reads_86 : decode cX6_reads 86 = .ok (.ifCond .ne 5, 3) := by decide +kernel
theorem dX6_reads_89 : decode cX6_reads 89 = .ok (.iconst 0, 1) := by decide +kernel
theorem dX6_reads_90 : decode cX6_reads 90 = .ok (.ireturn, 1) := by decide +kernel
theorem dX6_reads_91 : decode cX6_reads 91 = .ok (.iinc 1 1, 3) := by decide +kernel
theorem dX6_reads_94 : decode cX6_reads 94 = .ok (.goto (-22), 3) := by decide +kernel
theorem dX6_reads_97 : decode cX6_reads 97 = .ok (.aload_n 0, 1) := by decide +kernel
theorem dX6_reads_98 : decode cX6_reads 98 = .ok (.getfield 90, 3) := by decide +kernel
theorem dX6_reads_101 : decode cX6_reads 101 = .ok (.ifCond .eq 11, 3) := by decide +kernel
theorem dX6_reads_104 : decode cX6_reads 104 = .ok (.aload_n 0, 1) := by decide +kernel
theorem dX6_reads_105 : decode cX6_reads 105 = .ok (.iconst 1, 1) := by decide +kernel
theorem dX6_reads_106 : decode cX6_reads 106 = .ok (.invokevirtual 113, 3) := by decide +kernel
theorem dX6_reads_109 : decode cX6_reads 109 = .ok (.ifCond .eq 7, 3) := by decide +kernel
theorem dX6_reads_112 : decode cX6_reads 112 = .ok (.iconst 1, 1) := by decide +kernel
theorem dX6_reads_113 : decode cX6_reads 113 = .ok (.goto 4, 3) := by decide +kernel
theorem dX6_reads_116 : decode cX6_reads 116 = .ok (.iconst 0, 1) := by decide +kernel
theorem dX6_reads_117 : decode cX6_reads 117 = .ok (.ireturn, 1) := by decide +kernel
theorem dX6_town_0 : decode cX6_town 0 = .ok (.aload_n 0, 1) := by decide +kernel
theorem dX6_town_1 : decode cX6_town 1 = .ok (.invokevirtual 138, 3) := by decide +kernel
theorem dX6_town_4 : decode cX6_town 4 = .ok (.istore_n 1, 1) := by decide +kernel
theorem dX6_town_5 : decode cX6_town 5 = .ok (.aload_n 0, 1) := by decide +kernel
theorem dX6_town_6 : decode cX6_town 6 = .ok (.iconst 0, 1) := by decide +kernel
theorem dX6_town_7 : decode cX6_town 7 = .ok (.putfield 74, 3) := by decide +kernel
theorem dX6_town_10 : decode cX6_town 10 = .ok (.iload_n 1, 1) := by decide +kernel
theorem dX6_town_11 : decode cX6_town 11 = .ok (.ifCond .ne 19, 3) := by decide +kernel
theorem dX6_town_14 : decode cX6_town 14 = .ok (.aload_n 0, 1) := by decide +kernel
theorem dX6_town_15 : decode cX6_town 15 = .ok (.aload_n 0, 1) := by decide +kernel
theorem dX6_town_16 : decode cX6_town 16 = .ok (.getfield 110, 3) := by decide +kernel
theorem dX6_town_19 : decode cX6_town 19 = .ok (.putfield 141, 3) := by decide +kernel
theorem dX6_town_22 : decode cX6_town 22 = .ok (.ldc 144, 2) := by decide +kernel
theorem dX6_town_24 : decode cX6_town 24 = .ok (.aload_n 0, 1) := by decide +kernel
theorem dX6_town_25 : decode cX6_town 25 = .ok (.getfield 87, 3) := by decide +kernel
theorem dX6_town_28 : decode cX6_town 28 = .ok (.isub, 1) := by decide +kernel
theorem dX6_town_29 : decode cX6_town 29 = .ok (.ireturn, 1) := by decide +kernel
theorem dX6_town_30 : decode cX6_town 30 = .ok (.iconst 0, 1) := by decide +kernel
theorem dX6_town_31 : decode cX6_town 31 = .ok (.istore_n 2, 1) := by decide +kernel
theorem dX6_town_32 : decode cX6_town 32 = .ok (.iload_n 2, 1) := by decide +kernel
theorem dX6_town_33 : decode cX6_town 33 = .ok (.bipush 96, 2) := by decide +kernel
theorem dX6_town_35 : decode cX6_town 35 = .ok (.if_icmp .ge 21, 3) := by decide +kernel
theorem dX6_town_38 : decode cX6_town 38 = .ok (.aload_n 0, 1) := by decide +kernel
theorem dX6_town_39 : decode cX6_town 39 = .ok (.getfield 7, 3) := by decide +kernel
theorem dX6_town_42 : decode cX6_town 42 = .ok (.iload_n 2, 1) := by decide +kernel
theorem dX6_town_43 : decode cX6_town 43 = .ok (.aload_n 0, 1) := by decide +kernel
theorem dX6_town_44 : decode cX6_town 44 = .ok (.getfield 13, 3) := by decide +kernel
theorem dX6_town_47 : decode cX6_town 47 = .ok (.iload_n 2, 1) := by decide +kernel
theorem dX6_town_48 : decode cX6_town 48 = .ok (.iaload, 1) := by decide +kernel
theorem dX6_town_49 : decode cX6_town 49 = .ok (.iastore, 1) := by decide +kernel
theorem dX6_town_50 : decode cX6_town 50 = .ok (.iinc 2 1, 3) := by decide +kernel
theorem dX6_town_53 : decode cX6_town 53 = .ok (.goto (-21), 3) := by decide +kernel
theorem dX6_town_56 : decode cX6_town 56 = .ok (.aload_n 0, 1) := by decide +kernel
theorem dX6_town_57 : decode cX6_town 57 = .ok (.iconst 0, 1) := by decide +kernel
theorem dX6_town_58 : decode cX6_town 58 = .ok (.putfield 145, 3) := by decide +kernel
theorem dX6_town_61 : decode cX6_town 61 = .ok (.aload_n 0, 1) := by decide +kernel
theorem dX6_town_62 : decode cX6_town 62 = .ok (.getfield 7, 3) := by decide +kernel
theorem dX6_town_65 : decode cX6_town 65 = .ok (.iconst 2, 1) := by decide +kernel
theorem dX6_town_66 : decode cX6_town 66 = .ok (.iaload, 1) := by decide +kernel
theorem dX6_town_67 : decode cX6_town 67 = .ok (.ireturn, 1) := by decide +kernel
section MW
variable {G : GG} {z : Nat} {σ : AH} {a0 a1 a2 a3 a4 a5 a6 a7 a8 a9 a10 a11 : Nat → Int32} {i0 i1 i2 i3 i4 i5 i6 i7 i8 i9 i10 i11 : Int32} {tp : Nat → Int32} {len : Nat} {r : RS} {s : TS}
theorem tWord_y {i : Nat} (h : atI tp r i = true) : tWord tp len i r = (true, nextT tp len r) := by unfold tWord; rw [if_pos h]
theorem tWord_n {i : Nat} (h : ¬ atI tp r i = true) : tWord tp len i r = (false, hsF 1 r) := by unfold tWord; rw [if_neg h]
theorem m_takesX (lo hi nt : Int32) (hlo : (-1 : Int32) < lo) (hne : ¬ (r.1 = 2 ∧ r.2.2.2.1 = nt)) (hb : bOK tp) (h8 : ∀ j, a8 j = ubI (tp j)) (hl : len ≤ 400) (hr : rOK len r) : Ct G yX6_takes cX6_takes 3 (some .boolean) 4 0 0 z (mH σ a0 a1 a2 a3 a4 a5 a6 a7 a8 a9 a10 a11 i0 i1 i2 (nI len) (nI r.2.2.1) (nI r.2.1) (nI (tokR tp r)) r.2.2.2.1 r.2.2.2.2.2 r.2.2.2.2.1 i10 i11) [.ref 171, .int lo, .int hi] (some (.int (b2I (tNum tp len lo hi nt r).1))) z (mH σ a0 a1 a2 a3 a4 a5 a6 a7 a8 a9 a10 a11 i0 i1 i2 (nI len) (nI ((tNum tp len lo hi nt r).2).2.2.1) (nI ((tNum tp len lo hi nt r).2).2.1) (nI (tokR tp ((tNum tp len lo hi nt r).2))) (((tNum tp len lo hi nt r).2).2.2.2.1) (((tNum tp len lo hi nt r).2).2.2.2.2.2) (((tNum tp len lo hi nt r).2).2.2.2.2.1) i10 i11) := by
  rw [tNum_nt hlo hne]
  exact m_takes lo hi hlo hb h8 hl hr
theorem m_scans0 (hb : bOK tp) (h8 : ∀ j, a8 j = ubI (tp j)) (hl : len ≤ 400) : Ct G yX6_scans cX6_scans 3 none 3 0 0 z (mH σ a0 a1 a2 a3 a4 a5 a6 a7 a8 a9 a10 a11 i0 i1 i2 (nI len) (nI 0) i5 i6 r.2.2.2.1 r.2.2.2.2.2 r.2.2.2.2.1 i10 i11) [.ref 171] none z (mH σ a0 a1 a2 a3 a4 a5 a6 a7 a8 a9 a10 a11 i0 i1 i2 (nI len) (nI ((nextT tp len (r.1, r.2.1, 0, r.2.2.2.1, r.2.2.2.2.1, r.2.2.2.2.2))).2.2.1) (nI ((nextT tp len (r.1, r.2.1, 0, r.2.2.2.1, r.2.2.2.2.1, r.2.2.2.2.2))).2.1) (nI (tokR tp ((nextT tp len (r.1, r.2.1, 0, r.2.2.2.1, r.2.2.2.2.1, r.2.2.2.2.2))))) (((nextT tp len (r.1, r.2.1, 0, r.2.2.2.1, r.2.2.2.2.1, r.2.2.2.2.2))).2.2.2.1) (((nextT tp len (r.1, r.2.1, 0, r.2.2.2.1, r.2.2.2.2.1, r.2.2.2.2.2))).2.2.2.2.2) (((nextT tp len (r.1, r.2.1, 0, r.2.2.2.1, r.2.2.2.2.1, r.2.2.2.2.2))).2.2.2.2.1) i10 i11) := m_scans hb h8 hl (Nat.zero_le _)
theorem m_law (hb : bOK tp) (h8 : ∀ j, a8 j = ubI (tp j)) (hl : len ≤ 400) (hr : rOK len r) : Ct G yX6_law cX6_law 1 (some .boolean) 5 0 0 z (mH σ a0 a1 a2 a3 a4 a5 a6 a7 a8 a9 a10 a11 i0 i1 i2 (nI len) (nI r.2.2.1) (nI r.2.1) (nI (tokR tp r)) r.2.2.2.1 r.2.2.2.2.2 r.2.2.2.2.1 i10 i11) [.ref 171] (some (.int (b2I (rLaw tp len r s).1))) z (mH σ a0 (lawG tp len r a1) a2 a3 a4 a5 a6 a7 a8 a9 a10 a11 i0 i1 i2 (nI len) (nI ((rLaw tp len r s).2.1).2.2.1) (nI ((rLaw tp len r s).2.1).2.1) (nI (tokR tp ((rLaw tp len r s).2.1))) (((rLaw tp len r s).2.1).2.2.2.1) (((rLaw tp len r s).2.1).2.2.2.2.2) (((rLaw tp len r s).2.1).2.2.2.2.1) i10 i11) := by
  refine Ct.ofJ RX6 rfl [some (.ref 171)] rfl (by decide) (by simp [Value.category]) ?_
  have h2 := tok_w0 (tp := tp) (r := r)
  have h8t := tok_le (tp := tp) (r := r)
  by_cases hA : atI tp r 0 = true
  · have e0 : (tWord tp len 0 r) = (true, nextT tp len r) := by unfold tWord; rw [if_pos hA]
    have hw : (tWord tp len 0 r).1 = true := by rw [e0]
    refine j_aload_n dX6_law_0 rfl rfl ?_
    refine j_getf dX6_law_1 6 15 rfl (Nat.le_of_ble_eq_true rfl) fl_X6_90 in_6 mH_o rfl ?_
    refine j_iconst (nI 4) dX6_law_4 rfl ?_
    refine j_icmp_eqN 14 dX6_law_5 (by decide) (by omega) (by omega) (fun b5 => ?_) (fun b5 => by exact absurd (h2.mpr hA) b5)
    refine j_aload_n dX6_law_14 rfl rfl ?_
    refine j_callV (m_scansR hb h8 hl hr.2) dX6_law_15 rfl mv_X6_119 mH_o rfl ⟨(Nat.le_of_ble_eq_true rfl), (Nat.le_of_ble_eq_true rfl)⟩ ⟨(Nat.le_of_ble_eq_true rfl), (Nat.le_of_ble_eq_true rfl)⟩ (Nat.le_of_ble_eq_true rfl) ?_
    rw [show nextT tp len r = (tWord tp len 0 r).2 from by rw [e0]]
    refine j_aload_n dX6_law_18 rfl rfl ?_
    refine j_iconst (nI 1) dX6_law_19 rfl ?_
    refine j_bipush (nI 20) dX6_law_20 rfl ?_
    refine j_callV (m_takes (nI 1) (nI 20) (by decide) hb h8 hl (tWord_ok hr)) dX6_law_22 rfl mv_X6_122 mH_o rfl ⟨(Nat.le_of_ble_eq_true rfl), (Nat.le_of_ble_eq_true rfl)⟩ ⟨(Nat.le_of_ble_eq_true rfl), (Nat.le_of_ble_eq_true rfl)⟩ (Nat.le_of_ble_eq_true rfl) ?_
    refine j_if_ne 30 dX6_law_25 (by decide) (fun b25 => ?_) (fun b25 => ?_)
    · refine j_aload_n dX6_law_30 rfl rfl ?_
      refine j_getf dX6_law_31 6 1 rfl (Nat.le_of_ble_eq_true rfl) fl_X6_13 in_6 mH_o rfl ?_
      refine j_iconst (nI 0) dX6_law_34 rfl ?_
      refine j_aload_n dX6_law_35 rfl rfl ?_
      refine j_getf dX6_law_36 6 18 rfl (Nat.le_of_ble_eq_true rfl) fl_X6_116 in_6 mH_o rfl ?_
      refine j_iast dX6_law_39 mH_a1 rfl (by omega) (by decide) _ mH_s1 ?_
      refine j_aload_n dX6_law_40 rfl rfl ?_
      refine j_iconst (nI 0) dX6_law_41 rfl ?_
      refine j_bipush (nI 20) dX6_law_42 rfl ?_
      refine j_callV (m_takes (nI 0) (nI 20) (by decide) hb h8 hl (tNum_ok (tWord_ok hr))) dX6_law_44 rfl mv_X6_122 mH_o rfl ⟨(Nat.le_of_ble_eq_true rfl), (Nat.le_of_ble_eq_true rfl)⟩ ⟨(Nat.le_of_ble_eq_true rfl), (Nat.le_of_ble_eq_true rfl)⟩ (Nat.le_of_ble_eq_true rfl) ?_
      refine j_if_ne 52 dX6_law_47 (by decide) (fun b47 => ?_) (fun b47 => ?_)
      · refine j_aload_n dX6_law_52 rfl rfl ?_
        refine j_getf dX6_law_53 6 1 rfl (Nat.le_of_ble_eq_true rfl) fl_X6_13 in_6 mH_o rfl ?_
        refine j_iconst (nI 1) dX6_law_56 rfl ?_
        refine j_aload_n dX6_law_57 rfl rfl ?_
        refine j_getf dX6_law_58 6 18 rfl (Nat.le_of_ble_eq_true rfl) fl_X6_116 in_6 mH_o rfl ?_
        refine j_iast dX6_law_61 mH_a1 rfl (by omega) (by decide) _ mH_s1 ?_
        refine j_aload_n dX6_law_62 rfl rfl ?_
        refine j_callV (m_ends hb h8 hl (tNum_ok (tNum_ok (tWord_ok hr)))) dX6_law_63 rfl mv_X6_125 mH_o rfl ⟨(Nat.le_of_ble_eq_true rfl), (Nat.le_of_ble_eq_true rfl)⟩ ⟨(Nat.le_of_ble_eq_true rfl), (Nat.le_of_ble_eq_true rfl)⟩ (Nat.le_of_ble_eq_true rfl) ?_
        exact j_zret .boolean rfl (nar_b _) dX6_law_66 (by unfold rLaw; rw [if_pos hw, if_pos (b2I_1 b25), if_pos (b2I_1 b47)]) (by unfold rLaw lawG; rw [if_pos hw, if_pos (b2I_1 b25), if_pos (b2I_1 b47)]; rw [if_pos hw, if_pos (b2I_1 b25), if_pos (b2I_1 b47)]) (Nat.le_of_ble_eq_true rfl) (Nat.le_of_ble_eq_true rfl)
      · refine j_iconst (nI 0) dX6_law_50 rfl ?_
        exact j_zret .boolean rfl rfl dX6_law_51 (by unfold rLaw; rw [if_pos hw, if_pos (b2I_1 b25), if_neg (b2I_n b47)]; rfl) (by unfold rLaw lawG; rw [if_pos hw, if_pos (b2I_1 b25), if_neg (b2I_n b47)]; rw [if_pos hw, if_pos (b2I_1 b25), if_neg (b2I_n b47)]) (Nat.le_of_ble_eq_true rfl) (Nat.le_of_ble_eq_true rfl)
    · refine j_iconst (nI 0) dX6_law_28 rfl ?_
      exact j_zret .boolean rfl rfl dX6_law_29 (by unfold rLaw; rw [if_pos hw, if_neg (b2I_n b25)]; rfl) (by unfold rLaw lawG; rw [if_pos hw, if_neg (b2I_n b25)]; rw [if_pos hw, if_neg (b2I_n b25)]) (Nat.le_of_ble_eq_true rfl) (Nat.le_of_ble_eq_true rfl)
  · have e0 : (tWord tp len 0 r) = (false, hsF 1 r) := by unfold tWord; rw [if_neg hA]
    have hw : ¬ (tWord tp len 0 r).1 = true := by rw [e0]; exact f_ne_t
    refine j_aload_n dX6_law_0 rfl rfl ?_
    refine j_getf dX6_law_1 6 15 rfl (Nat.le_of_ble_eq_true rfl) fl_X6_90 in_6 mH_o rfl ?_
    refine j_iconst (nI 4) dX6_law_4 rfl ?_
    refine j_icmp_eqN 14 dX6_law_5 (by decide) (by omega) (by omega) (fun b5 => by exact absurd (h2.mp b5) hA) (fun b5 => ?_)
    refine j_aload_n dX6_law_8 rfl rfl ?_
    refine j_iconst (nI 1) dX6_law_9 rfl ?_
    refine j_callV (m_faults 1) dX6_law_10 rfl mv_X6_113 mH_o rfl ⟨(Nat.le_of_ble_eq_true rfl), (Nat.le_of_ble_eq_true rfl)⟩ ⟨(Nat.le_of_ble_eq_true rfl), (Nat.le_of_ble_eq_true rfl)⟩ (Nat.le_of_ble_eq_true rfl) ?_
    exact j_zret .boolean rfl rfl dX6_law_13 (by unfold rLaw; rw [if_neg hw]; rfl) (by unfold rLaw lawG; rw [if_neg hw]; rw [if_neg hw, e0]) (Nat.le_of_ble_eq_true rfl) (Nat.le_of_ble_eq_true rfl)
theorem m_person {N : Nat} (hat : atI tp r 1 = true) (h2 : a1 2 = nI N) (hN : N < 7) (hb : bOK tp) (h8 : ∀ j, a8 j = ubI (tp j)) (hl : len ≤ 400) (hr : rOK len r) : Ct G yX6_person cX6_person 2 (some .boolean) 5 0 0 z (mH σ a0 a1 a2 a3 a4 a5 a6 a7 a8 a9 a10 a11 i0 i1 i2 (nI len) (nI r.2.2.1) (nI r.2.1) (nI (tokR tp r)) r.2.2.2.1 r.2.2.2.2.2 r.2.2.2.2.1 i10 i11) [.ref 171] (some (.int (b2I (rPer tp len r s).1))) z (mH σ a0 (perG tp len r N a1) a2 a3 a4 a5 a6 a7 a8 a9 a10 a11 i0 i1 i2 (nI len) (nI ((rPer tp len r s).2.1).2.2.1) (nI ((rPer tp len r s).2.1).2.1) (nI (tokR tp ((rPer tp len r s).2.1))) (((rPer tp len r s).2.1).2.2.2.1) (((rPer tp len r s).2.1).2.2.2.2.2) (((rPer tp len r s).2.1).2.2.2.2.1) i10 i11) := by
  refine Ct.ofJ RX6 rfl [some (.ref 171), none] rfl (by decide) (by simp [Value.category]) ?_
  have e0 : (tWord tp len 1 r) = (true, nextT tp len r) := by unfold tWord; rw [if_pos hat]
  have hw : (tWord tp len 1 r).1 = true := by rw [e0]
  have t7 := tok_w3 (tp := tp) (r := (tNum tp len (nI 0) (nI 99) (-1) (tNum tp len (nI 0) (nI 999) (-1) (tWord tp len 1 r).2).2).2)
  have t8 := tok_w2 (tp := tp) (r := (tNum tp len (nI 0) (nI 99) (-1) (tNum tp len (nI 0) (nI 999) (-1) (tWord tp len 1 r).2).2).2)
  have h8t := tok_le (tp := tp) (r := (tNum tp len (nI 0) (nI 99) (-1) (tNum tp len (nI 0) (nI 999) (-1) (tWord tp len 1 r).2).2).2)
  by_cases hH : atI tp (tNum tp len (nI 0) (nI 99) (-1) (tNum tp len (nI 0) (nI 999) (-1) (tWord tp len 1 r).2).2).2 2 = true
  · have e2 : (tWord tp len (if atI tp (tNum tp len (nI 0) (nI 99) (-1) (tNum tp len (nI 0) (nI 999) (-1) (tWord tp len 1 r).2).2).2 2 = true then 2 else 3) (tNum tp len (nI 0) (nI 99) (-1) (tNum tp len (nI 0) (nI 999) (-1) (tWord tp len 1 r).2).2).2) = (true, nextT tp len (tNum tp len (nI 0) (nI 99) (-1) (tNum tp len (nI 0) (nI 999) (-1) (tWord tp len 1 r).2).2).2) := by rw [if_pos hH]; exact tWord_y hH
    have hw2 : (tWord tp len (if atI tp (tNum tp len (nI 0) (nI 99) (-1) (tNum tp len (nI 0) (nI 999) (-1) (tWord tp len 1 r).2).2).2 2 = true then 2 else 3) (tNum tp len (nI 0) (nI 99) (-1) (tNum tp len (nI 0) (nI 999) (-1) (tWord tp len 1 r).2).2).2).1 = true := by rw [e2]
    refine j_aload_n dX6_person_0 rfl rfl ?_
    refine j_getf dX6_person_1 6 1 rfl (Nat.le_of_ble_eq_true rfl) fl_X6_13 in_6 mH_o rfl ?_
    refine j_iconst (nI 2) dX6_person_4 rfl ?_
    refine j_iald dX6_person_5 mH_a1 rfl (by omega) (by decide) ?_
    refine j_top (nI N) h2 ?_
    refine j_bipush (nI 7) dX6_person_6 rfl ?_
    refine j_icmp_neN 17 dX6_person_8 (by decide) (by omega) (by omega) (fun b8 => ?_) (fun b8 => by exfalso; omega)
    refine j_aload_n dX6_person_17 rfl rfl ?_
    refine j_getf dX6_person_18 6 1 rfl (Nat.le_of_ble_eq_true rfl) fl_X6_13 in_6 mH_o rfl ?_
    refine j_iconst (nI 2) dX6_person_21 rfl ?_
    refine j_iald dX6_person_22 mH_a1 rfl (by omega) (by decide) ?_
    refine j_top (nI N) h2 ?_
    refine j_istore_n dX6_person_23 rfl (Nat.le_of_ble_eq_true rfl) rfl ?_
    refine j_aload_n dX6_person_24 rfl rfl ?_
    refine j_callV (m_scansR hb h8 hl hr.2) dX6_person_25 rfl mv_X6_119 mH_o rfl ⟨(Nat.le_of_ble_eq_true rfl), (Nat.le_of_ble_eq_true rfl)⟩ ⟨(Nat.le_of_ble_eq_true rfl), (Nat.le_of_ble_eq_true rfl)⟩ (Nat.le_of_ble_eq_true rfl) ?_
    rw [show nextT tp len r = (tWord tp len 1 r).2 from by rw [e0]]
    refine j_aload_n dX6_person_28 rfl rfl ?_
    refine j_iconst (nI 0) dX6_person_29 rfl ?_
    refine j_sipush (nI 999) dX6_person_30 rfl ?_
    refine j_callV (m_takes (nI 0) (nI 999) (by decide) hb h8 hl (tWord_ok hr)) dX6_person_33 rfl mv_X6_122 mH_o rfl ⟨(Nat.le_of_ble_eq_true rfl), (Nat.le_of_ble_eq_true rfl)⟩ ⟨(Nat.le_of_ble_eq_true rfl), (Nat.le_of_ble_eq_true rfl)⟩ (Nat.le_of_ble_eq_true rfl) ?_
    refine j_if_ne 41 dX6_person_36 (by decide) (fun b36 => ?_) (fun b36 => ?_)
    · refine j_aload_n dX6_person_41 rfl rfl ?_
      refine j_getf dX6_person_42 6 1 rfl (Nat.le_of_ble_eq_true rfl) fl_X6_13 in_6 mH_o rfl ?_
      refine j_iconst (nI 4) dX6_person_45 rfl ?_
      refine j_iload_n dX6_person_46 rfl rfl ?_
      first | refine j_iaddN dX6_person_47 ?_ | refine j_iadd dX6_person_47 ?_
      refine j_aload_n dX6_person_48 rfl rfl ?_
      refine j_getf dX6_person_49 6 18 rfl (Nat.le_of_ble_eq_true rfl) fl_X6_116 in_6 mH_o rfl ?_
      refine j_iast dX6_person_52 mH_a1 rfl (by omega) (by decide) _ mH_s1 ?_
      refine j_aload_n dX6_person_53 rfl rfl ?_
      refine j_iconst (nI 0) dX6_person_54 rfl ?_
      refine j_bipush (nI 99) dX6_person_55 rfl ?_
      refine j_callV (m_takes (nI 0) (nI 99) (by decide) hb h8 hl (tNum_ok (tWord_ok hr))) dX6_person_57 rfl mv_X6_122 mH_o rfl ⟨(Nat.le_of_ble_eq_true rfl), (Nat.le_of_ble_eq_true rfl)⟩ ⟨(Nat.le_of_ble_eq_true rfl), (Nat.le_of_ble_eq_true rfl)⟩ (Nat.le_of_ble_eq_true rfl) ?_
      refine j_if_ne 65 dX6_person_60 (by decide) (fun b60 => ?_) (fun b60 => ?_)
      · refine j_aload_n dX6_person_65 rfl rfl ?_
        refine j_getf dX6_person_66 6 1 rfl (Nat.le_of_ble_eq_true rfl) fl_X6_13 in_6 mH_o rfl ?_
        refine j_bipush (nI 11) dX6_person_69 rfl ?_
        refine j_iload_n dX6_person_71 rfl rfl ?_
        first | refine j_iaddN dX6_person_72 ?_ | refine j_iadd dX6_person_72 ?_
        refine j_aload_n dX6_person_73 rfl rfl ?_
        refine j_getf dX6_person_74 6 18 rfl (Nat.le_of_ble_eq_true rfl) fl_X6_116 in_6 mH_o rfl ?_
        refine j_iast dX6_person_77 mH_a1 rfl (by omega) (by decide) _ mH_s1 ?_
        refine j_aload_n dX6_person_78 rfl rfl ?_
        refine j_getf dX6_person_79 6 15 rfl (Nat.le_of_ble_eq_true rfl) fl_X6_90 in_6 mH_o rfl ?_
        refine j_bipush (nI 7) dX6_person_82 rfl ?_
        refine j_icmp_eqN 102 dX6_person_84 (by decide) (by omega) (by omega) (fun b84 => by exfalso; have := t8.mpr hH; omega) (fun b84 => ?_)
        refine j_aload_n dX6_person_87 rfl rfl ?_
        refine j_getf dX6_person_88 6 15 rfl (Nat.le_of_ble_eq_true rfl) fl_X6_90 in_6 mH_o rfl ?_
        refine j_bipush (nI 8) dX6_person_91 rfl ?_
        refine j_icmp_eqN 102 dX6_person_93 (by decide) (by omega) (by omega) (fun b93 => ?_) (fun b93 => by exact absurd (t8.mpr hH) b93)
        refine j_aload_n dX6_person_102 rfl rfl ?_
        refine j_getf dX6_person_103 6 1 rfl (Nat.le_of_ble_eq_true rfl) fl_X6_13 in_6 mH_o rfl ?_
        refine j_bipush (nI 18) dX6_person_106 rfl ?_
        refine j_iload_n dX6_person_108 rfl rfl ?_
        first | refine j_iaddN dX6_person_109 ?_ | refine j_iadd dX6_person_109 ?_
        refine j_aload_n dX6_person_110 rfl rfl ?_
        refine j_getf dX6_person_111 6 15 rfl (Nat.le_of_ble_eq_true rfl) fl_X6_90 in_6 mH_o rfl ?_
        refine j_bipush (nI 8) dX6_person_114 rfl ?_
        refine j_icmp_neN 123 dX6_person_116 (by decide) (by omega) (by omega) (fun b116 => by exact absurd (t8.mpr hH) b116) (fun b116 => ?_)
        refine j_iconst (nI 1) dX6_person_119 rfl ?_
        refine j_goto 124 dX6_person_120 (by decide) ?_
        refine j_iast dX6_person_124 mH_a1 rfl (by omega) (by decide) _ mH_s1 ?_
        refine j_aload_n dX6_person_125 rfl rfl ?_
        refine j_getf dX6_person_126 6 1 rfl (Nat.le_of_ble_eq_true rfl) fl_X6_13 in_6 mH_o rfl ?_
        refine j_bipush (nI 25) dX6_person_129 rfl ?_
        refine j_iload_n dX6_person_131 rfl rfl ?_
        first | refine j_iaddN dX6_person_132 ?_ | refine j_iadd dX6_person_132 ?_
        refine j_bipush (nI 10) dX6_person_133 rfl ?_
        refine j_iast dX6_person_135 mH_a1 rfl (by omega) (by decide) _ mH_s1 ?_
        refine j_aload_n dX6_person_136 rfl rfl ?_
        refine j_getf dX6_person_137 6 1 rfl (Nat.le_of_ble_eq_true rfl) fl_X6_13 in_6 mH_o rfl ?_
        refine j_iconst (nI 2) dX6_person_140 rfl ?_
        refine j_dup2 dX6_person_141 rfl rfl ?_
        refine j_iald dX6_person_142 mH_a1 rfl (by omega) (by decide) ?_
        refine j_top (nI N) (by rw [pk_un (by omega), pk_un (by omega), pk_un (by omega), pk_un (by omega)]; exact h2) ?_
        refine j_iconst (nI 1) dX6_person_143 rfl ?_
        first | refine j_iaddN dX6_person_144 ?_ | refine j_iadd dX6_person_144 ?_
        refine j_iast dX6_person_145 mH_a1 rfl (by omega) (by decide) _ mH_s1 ?_
        refine j_aload_n dX6_person_146 rfl rfl ?_
        refine j_callV (m_scansR hb h8 hl (tNum_ok (tNum_ok (tWord_ok hr))).2) dX6_person_147 rfl mv_X6_119 mH_o rfl ⟨(Nat.le_of_ble_eq_true rfl), (Nat.le_of_ble_eq_true rfl)⟩ ⟨(Nat.le_of_ble_eq_true rfl), (Nat.le_of_ble_eq_true rfl)⟩ (Nat.le_of_ble_eq_true rfl) ?_
        rw [show nextT tp len (tNum tp len (nI 0) (nI 99) (-1) (tNum tp len (nI 0) (nI 999) (-1) (tWord tp len 1 r).2).2).2 = (tWord tp len (if atI tp (tNum tp len (nI 0) (nI 99) (-1) (tNum tp len (nI 0) (nI 999) (-1) (tWord tp len 1 r).2).2).2 2 = true then 2 else 3) (tNum tp len (nI 0) (nI 99) (-1) (tNum tp len (nI 0) (nI 999) (-1) (tWord tp len 1 r).2).2).2).2 from by rw [e2]]
        refine j_aload_n dX6_person_150 rfl rfl ?_
        refine j_callV (m_ends hb h8 hl (tWord_ok (tNum_ok (tNum_ok (tWord_ok hr))))) dX6_person_151 rfl mv_X6_125 mH_o rfl ⟨(Nat.le_of_ble_eq_true rfl), (Nat.le_of_ble_eq_true rfl)⟩ ⟨(Nat.le_of_ble_eq_true rfl), (Nat.le_of_ble_eq_true rfl)⟩ (Nat.le_of_ble_eq_true rfl) ?_
        exact j_zret .boolean rfl (nar_b _) dX6_person_154 (by unfold rPer; rw [if_pos hw, if_pos (b2I_1 b36), if_pos (b2I_1 b60), if_pos hw2]) (by unfold rPer perG; rw [if_pos hw, if_pos (b2I_1 b36), if_pos (b2I_1 b60), if_pos hw2]; rw [if_pos (b2I_1 b36), if_pos (b2I_1 b60), if_pos hw2]; rw [show b2I (atI tp (tNum tp len (nI 0) (nI 99) (-1) (tNum tp len (nI 0) (nI 999) (-1) (tWord tp len 1 r).2).2).2 2) = nI 1 from by rw [hH]; rfl]) (Nat.le_of_ble_eq_true rfl) (Nat.le_of_ble_eq_true rfl)
      · refine j_iconst (nI 0) dX6_person_63 rfl ?_
        exact j_zret .boolean rfl rfl dX6_person_64 (by unfold rPer; rw [if_pos hw, if_pos (b2I_1 b36), if_neg (b2I_n b60)]; rfl) (by unfold rPer perG; rw [if_pos hw, if_pos (b2I_1 b36), if_neg (b2I_n b60)]; rw [if_pos (b2I_1 b36), if_neg (b2I_n b60)]) (Nat.le_of_ble_eq_true rfl) (Nat.le_of_ble_eq_true rfl)
    · refine j_iconst (nI 0) dX6_person_39 rfl ?_
      exact j_zret .boolean rfl rfl dX6_person_40 (by unfold rPer; rw [if_pos hw, if_neg (b2I_n b36)]; rfl) (by unfold rPer perG; rw [if_pos hw, if_neg (b2I_n b36)]; rw [if_neg (b2I_n b36)]) (Nat.le_of_ble_eq_true rfl) (Nat.le_of_ble_eq_true rfl)
  · have eH : atI tp (tNum tp len (nI 0) (nI 99) (-1) (tNum tp len (nI 0) (nI 999) (-1) (tWord tp len 1 r).2).2).2 2 = false := by cases q : atI tp (tNum tp len (nI 0) (nI 99) (-1) (tNum tp len (nI 0) (nI 999) (-1) (tWord tp len 1 r).2).2).2 2 with | true => exact absurd q hH | false => rfl
    by_cases hO : atI tp (tNum tp len (nI 0) (nI 99) (-1) (tNum tp len (nI 0) (nI 999) (-1) (tWord tp len 1 r).2).2).2 3 = true
    · have e2 : (tWord tp len (if atI tp (tNum tp len (nI 0) (nI 99) (-1) (tNum tp len (nI 0) (nI 999) (-1) (tWord tp len 1 r).2).2).2 2 = true then 2 else 3) (tNum tp len (nI 0) (nI 99) (-1) (tNum tp len (nI 0) (nI 999) (-1) (tWord tp len 1 r).2).2).2) = (true, nextT tp len (tNum tp len (nI 0) (nI 99) (-1) (tNum tp len (nI 0) (nI 999) (-1) (tWord tp len 1 r).2).2).2) := by rw [if_neg hH]; exact tWord_y hO
      have hw2 : (tWord tp len (if atI tp (tNum tp len (nI 0) (nI 99) (-1) (tNum tp len (nI 0) (nI 999) (-1) (tWord tp len 1 r).2).2).2 2 = true then 2 else 3) (tNum tp len (nI 0) (nI 99) (-1) (tNum tp len (nI 0) (nI 999) (-1) (tWord tp len 1 r).2).2).2).1 = true := by rw [e2]
      refine j_aload_n dX6_person_0 rfl rfl ?_
      refine j_getf dX6_person_1 6 1 rfl (Nat.le_of_ble_eq_true rfl) fl_X6_13 in_6 mH_o rfl ?_
      refine j_iconst (nI 2) dX6_person_4 rfl ?_
      refine j_iald dX6_person_5 mH_a1 rfl (by omega) (by decide) ?_
      refine j_top (nI N) h2 ?_
      refine j_bipush (nI 7) dX6_person_6 rfl ?_
      refine j_icmp_neN 17 dX6_person_8 (by decide) (by omega) (by omega) (fun b8 => ?_) (fun b8 => by exfalso; omega)
      refine j_aload_n dX6_person_17 rfl rfl ?_
      refine j_getf dX6_person_18 6 1 rfl (Nat.le_of_ble_eq_true rfl) fl_X6_13 in_6 mH_o rfl ?_
      refine j_iconst (nI 2) dX6_person_21 rfl ?_
      refine j_iald dX6_person_22 mH_a1 rfl (by omega) (by decide) ?_
      refine j_top (nI N) h2 ?_
      refine j_istore_n dX6_person_23 rfl (Nat.le_of_ble_eq_true rfl) rfl ?_
      refine j_aload_n dX6_person_24 rfl rfl ?_
      refine j_callV (m_scansR hb h8 hl hr.2) dX6_person_25 rfl mv_X6_119 mH_o rfl ⟨(Nat.le_of_ble_eq_true rfl), (Nat.le_of_ble_eq_true rfl)⟩ ⟨(Nat.le_of_ble_eq_true rfl), (Nat.le_of_ble_eq_true rfl)⟩ (Nat.le_of_ble_eq_true rfl) ?_
      rw [show nextT tp len r = (tWord tp len 1 r).2 from by rw [e0]]
      refine j_aload_n dX6_person_28 rfl rfl ?_
      refine j_iconst (nI 0) dX6_person_29 rfl ?_
      refine j_sipush (nI 999) dX6_person_30 rfl ?_
      refine j_callV (m_takes (nI 0) (nI 999) (by decide) hb h8 hl (tWord_ok hr)) dX6_person_33 rfl mv_X6_122 mH_o rfl ⟨(Nat.le_of_ble_eq_true rfl), (Nat.le_of_ble_eq_true rfl)⟩ ⟨(Nat.le_of_ble_eq_true rfl), (Nat.le_of_ble_eq_true rfl)⟩ (Nat.le_of_ble_eq_true rfl) ?_
      refine j_if_ne 41 dX6_person_36 (by decide) (fun b36 => ?_) (fun b36 => ?_)
      · refine j_aload_n dX6_person_41 rfl rfl ?_
        refine j_getf dX6_person_42 6 1 rfl (Nat.le_of_ble_eq_true rfl) fl_X6_13 in_6 mH_o rfl ?_
        refine j_iconst (nI 4) dX6_person_45 rfl ?_
        refine j_iload_n dX6_person_46 rfl rfl ?_
        first | refine j_iaddN dX6_person_47 ?_ | refine j_iadd dX6_person_47 ?_
        refine j_aload_n dX6_person_48 rfl rfl ?_
        refine j_getf dX6_person_49 6 18 rfl (Nat.le_of_ble_eq_true rfl) fl_X6_116 in_6 mH_o rfl ?_
        refine j_iast dX6_person_52 mH_a1 rfl (by omega) (by decide) _ mH_s1 ?_
        refine j_aload_n dX6_person_53 rfl rfl ?_
        refine j_iconst (nI 0) dX6_person_54 rfl ?_
        refine j_bipush (nI 99) dX6_person_55 rfl ?_
        refine j_callV (m_takes (nI 0) (nI 99) (by decide) hb h8 hl (tNum_ok (tWord_ok hr))) dX6_person_57 rfl mv_X6_122 mH_o rfl ⟨(Nat.le_of_ble_eq_true rfl), (Nat.le_of_ble_eq_true rfl)⟩ ⟨(Nat.le_of_ble_eq_true rfl), (Nat.le_of_ble_eq_true rfl)⟩ (Nat.le_of_ble_eq_true rfl) ?_
        refine j_if_ne 65 dX6_person_60 (by decide) (fun b60 => ?_) (fun b60 => ?_)
        · refine j_aload_n dX6_person_65 rfl rfl ?_
          refine j_getf dX6_person_66 6 1 rfl (Nat.le_of_ble_eq_true rfl) fl_X6_13 in_6 mH_o rfl ?_
          refine j_bipush (nI 11) dX6_person_69 rfl ?_
          refine j_iload_n dX6_person_71 rfl rfl ?_
          first | refine j_iaddN dX6_person_72 ?_ | refine j_iadd dX6_person_72 ?_
          refine j_aload_n dX6_person_73 rfl rfl ?_
          refine j_getf dX6_person_74 6 18 rfl (Nat.le_of_ble_eq_true rfl) fl_X6_116 in_6 mH_o rfl ?_
          refine j_iast dX6_person_77 mH_a1 rfl (by omega) (by decide) _ mH_s1 ?_
          refine j_aload_n dX6_person_78 rfl rfl ?_
          refine j_getf dX6_person_79 6 15 rfl (Nat.le_of_ble_eq_true rfl) fl_X6_90 in_6 mH_o rfl ?_
          refine j_bipush (nI 7) dX6_person_82 rfl ?_
          refine j_icmp_eqN 102 dX6_person_84 (by decide) (by omega) (by omega) (fun b84 => ?_) (fun b84 => by exact absurd (t7.mpr hO) b84)
          refine j_aload_n dX6_person_102 rfl rfl ?_
          refine j_getf dX6_person_103 6 1 rfl (Nat.le_of_ble_eq_true rfl) fl_X6_13 in_6 mH_o rfl ?_
          refine j_bipush (nI 18) dX6_person_106 rfl ?_
          refine j_iload_n dX6_person_108 rfl rfl ?_
          first | refine j_iaddN dX6_person_109 ?_ | refine j_iadd dX6_person_109 ?_
          refine j_aload_n dX6_person_110 rfl rfl ?_
          refine j_getf dX6_person_111 6 15 rfl (Nat.le_of_ble_eq_true rfl) fl_X6_90 in_6 mH_o rfl ?_
          refine j_bipush (nI 8) dX6_person_114 rfl ?_
          refine j_icmp_neN 123 dX6_person_116 (by decide) (by omega) (by omega) (fun b116 => ?_) (fun b116 => by exact absurd (t8.mp b116) hH)
          refine j_iconst (nI 0) dX6_person_123 rfl ?_
          refine j_iast dX6_person_124 mH_a1 rfl (by omega) (by decide) _ mH_s1 ?_
          refine j_aload_n dX6_person_125 rfl rfl ?_
          refine j_getf dX6_person_126 6 1 rfl (Nat.le_of_ble_eq_true rfl) fl_X6_13 in_6 mH_o rfl ?_
          refine j_bipush (nI 25) dX6_person_129 rfl ?_
          refine j_iload_n dX6_person_131 rfl rfl ?_
          first | refine j_iaddN dX6_person_132 ?_ | refine j_iadd dX6_person_132 ?_
          refine j_bipush (nI 10) dX6_person_133 rfl ?_
          refine j_iast dX6_person_135 mH_a1 rfl (by omega) (by decide) _ mH_s1 ?_
          refine j_aload_n dX6_person_136 rfl rfl ?_
          refine j_getf dX6_person_137 6 1 rfl (Nat.le_of_ble_eq_true rfl) fl_X6_13 in_6 mH_o rfl ?_
          refine j_iconst (nI 2) dX6_person_140 rfl ?_
          refine j_dup2 dX6_person_141 rfl rfl ?_
          refine j_iald dX6_person_142 mH_a1 rfl (by omega) (by decide) ?_
          refine j_top (nI N) (by rw [pk_un (by omega), pk_un (by omega), pk_un (by omega), pk_un (by omega)]; exact h2) ?_
          refine j_iconst (nI 1) dX6_person_143 rfl ?_
          first | refine j_iaddN dX6_person_144 ?_ | refine j_iadd dX6_person_144 ?_
          refine j_iast dX6_person_145 mH_a1 rfl (by omega) (by decide) _ mH_s1 ?_
          refine j_aload_n dX6_person_146 rfl rfl ?_
          refine j_callV (m_scansR hb h8 hl (tNum_ok (tNum_ok (tWord_ok hr))).2) dX6_person_147 rfl mv_X6_119 mH_o rfl ⟨(Nat.le_of_ble_eq_true rfl), (Nat.le_of_ble_eq_true rfl)⟩ ⟨(Nat.le_of_ble_eq_true rfl), (Nat.le_of_ble_eq_true rfl)⟩ (Nat.le_of_ble_eq_true rfl) ?_
          rw [show nextT tp len (tNum tp len (nI 0) (nI 99) (-1) (tNum tp len (nI 0) (nI 999) (-1) (tWord tp len 1 r).2).2).2 = (tWord tp len (if atI tp (tNum tp len (nI 0) (nI 99) (-1) (tNum tp len (nI 0) (nI 999) (-1) (tWord tp len 1 r).2).2).2 2 = true then 2 else 3) (tNum tp len (nI 0) (nI 99) (-1) (tNum tp len (nI 0) (nI 999) (-1) (tWord tp len 1 r).2).2).2).2 from by rw [e2]]
          refine j_aload_n dX6_person_150 rfl rfl ?_
          refine j_callV (m_ends hb h8 hl (tWord_ok (tNum_ok (tNum_ok (tWord_ok hr))))) dX6_person_151 rfl mv_X6_125 mH_o rfl ⟨(Nat.le_of_ble_eq_true rfl), (Nat.le_of_ble_eq_true rfl)⟩ ⟨(Nat.le_of_ble_eq_true rfl), (Nat.le_of_ble_eq_true rfl)⟩ (Nat.le_of_ble_eq_true rfl) ?_
          exact j_zret .boolean rfl (nar_b _) dX6_person_154 (by unfold rPer; rw [if_pos hw, if_pos (b2I_1 b36), if_pos (b2I_1 b60), if_pos hw2]) (by unfold rPer perG; rw [if_pos hw, if_pos (b2I_1 b36), if_pos (b2I_1 b60), if_pos hw2]; rw [if_pos (b2I_1 b36), if_pos (b2I_1 b60), if_pos hw2]; rw [show b2I (atI tp (tNum tp len (nI 0) (nI 99) (-1) (tNum tp len (nI 0) (nI 999) (-1) (tWord tp len 1 r).2).2).2 2) = nI 0 from by rw [eH]; rfl]) (Nat.le_of_ble_eq_true rfl) (Nat.le_of_ble_eq_true rfl)
        · refine j_iconst (nI 0) dX6_person_63 rfl ?_
          exact j_zret .boolean rfl rfl dX6_person_64 (by unfold rPer; rw [if_pos hw, if_pos (b2I_1 b36), if_neg (b2I_n b60)]; rfl) (by unfold rPer perG; rw [if_pos hw, if_pos (b2I_1 b36), if_neg (b2I_n b60)]; rw [if_pos (b2I_1 b36), if_neg (b2I_n b60)]) (Nat.le_of_ble_eq_true rfl) (Nat.le_of_ble_eq_true rfl)
      · refine j_iconst (nI 0) dX6_person_39 rfl ?_
        exact j_zret .boolean rfl rfl dX6_person_40 (by unfold rPer; rw [if_pos hw, if_neg (b2I_n b36)]; rfl) (by unfold rPer perG; rw [if_pos hw, if_neg (b2I_n b36)]; rw [if_neg (b2I_n b36)]) (Nat.le_of_ble_eq_true rfl) (Nat.le_of_ble_eq_true rfl)
    · have e2 : (tWord tp len (if atI tp (tNum tp len (nI 0) (nI 99) (-1) (tNum tp len (nI 0) (nI 999) (-1) (tWord tp len 1 r).2).2).2 2 = true then 2 else 3) (tNum tp len (nI 0) (nI 99) (-1) (tNum tp len (nI 0) (nI 999) (-1) (tWord tp len 1 r).2).2).2) = (false, hsF 1 (tNum tp len (nI 0) (nI 99) (-1) (tNum tp len (nI 0) (nI 999) (-1) (tWord tp len 1 r).2).2).2) := by rw [if_neg hH]; exact tWord_n hO
      have hw2 : ¬ (tWord tp len (if atI tp (tNum tp len (nI 0) (nI 99) (-1) (tNum tp len (nI 0) (nI 999) (-1) (tWord tp len 1 r).2).2).2 2 = true then 2 else 3) (tNum tp len (nI 0) (nI 99) (-1) (tNum tp len (nI 0) (nI 999) (-1) (tWord tp len 1 r).2).2).2).1 = true := by rw [e2]; exact f_ne_t
      refine j_aload_n dX6_person_0 rfl rfl ?_
      refine j_getf dX6_person_1 6 1 rfl (Nat.le_of_ble_eq_true rfl) fl_X6_13 in_6 mH_o rfl ?_
      refine j_iconst (nI 2) dX6_person_4 rfl ?_
      refine j_iald dX6_person_5 mH_a1 rfl (by omega) (by decide) ?_
      refine j_top (nI N) h2 ?_
      refine j_bipush (nI 7) dX6_person_6 rfl ?_
      refine j_icmp_neN 17 dX6_person_8 (by decide) (by omega) (by omega) (fun b8 => ?_) (fun b8 => by exfalso; omega)
      refine j_aload_n dX6_person_17 rfl rfl ?_
      refine j_getf dX6_person_18 6 1 rfl (Nat.le_of_ble_eq_true rfl) fl_X6_13 in_6 mH_o rfl ?_
      refine j_iconst (nI 2) dX6_person_21 rfl ?_
      refine j_iald dX6_person_22 mH_a1 rfl (by omega) (by decide) ?_
      refine j_top (nI N) h2 ?_
      refine j_istore_n dX6_person_23 rfl (Nat.le_of_ble_eq_true rfl) rfl ?_
      refine j_aload_n dX6_person_24 rfl rfl ?_
      refine j_callV (m_scansR hb h8 hl hr.2) dX6_person_25 rfl mv_X6_119 mH_o rfl ⟨(Nat.le_of_ble_eq_true rfl), (Nat.le_of_ble_eq_true rfl)⟩ ⟨(Nat.le_of_ble_eq_true rfl), (Nat.le_of_ble_eq_true rfl)⟩ (Nat.le_of_ble_eq_true rfl) ?_
      rw [show nextT tp len r = (tWord tp len 1 r).2 from by rw [e0]]
      refine j_aload_n dX6_person_28 rfl rfl ?_
      refine j_iconst (nI 0) dX6_person_29 rfl ?_
      refine j_sipush (nI 999) dX6_person_30 rfl ?_
      refine j_callV (m_takes (nI 0) (nI 999) (by decide) hb h8 hl (tWord_ok hr)) dX6_person_33 rfl mv_X6_122 mH_o rfl ⟨(Nat.le_of_ble_eq_true rfl), (Nat.le_of_ble_eq_true rfl)⟩ ⟨(Nat.le_of_ble_eq_true rfl), (Nat.le_of_ble_eq_true rfl)⟩ (Nat.le_of_ble_eq_true rfl) ?_
      refine j_if_ne 41 dX6_person_36 (by decide) (fun b36 => ?_) (fun b36 => ?_)
      · refine j_aload_n dX6_person_41 rfl rfl ?_
        refine j_getf dX6_person_42 6 1 rfl (Nat.le_of_ble_eq_true rfl) fl_X6_13 in_6 mH_o rfl ?_
        refine j_iconst (nI 4) dX6_person_45 rfl ?_
        refine j_iload_n dX6_person_46 rfl rfl ?_
        first | refine j_iaddN dX6_person_47 ?_ | refine j_iadd dX6_person_47 ?_
        refine j_aload_n dX6_person_48 rfl rfl ?_
        refine j_getf dX6_person_49 6 18 rfl (Nat.le_of_ble_eq_true rfl) fl_X6_116 in_6 mH_o rfl ?_
        refine j_iast dX6_person_52 mH_a1 rfl (by omega) (by decide) _ mH_s1 ?_
        refine j_aload_n dX6_person_53 rfl rfl ?_
        refine j_iconst (nI 0) dX6_person_54 rfl ?_
        refine j_bipush (nI 99) dX6_person_55 rfl ?_
        refine j_callV (m_takes (nI 0) (nI 99) (by decide) hb h8 hl (tNum_ok (tWord_ok hr))) dX6_person_57 rfl mv_X6_122 mH_o rfl ⟨(Nat.le_of_ble_eq_true rfl), (Nat.le_of_ble_eq_true rfl)⟩ ⟨(Nat.le_of_ble_eq_true rfl), (Nat.le_of_ble_eq_true rfl)⟩ (Nat.le_of_ble_eq_true rfl) ?_
        refine j_if_ne 65 dX6_person_60 (by decide) (fun b60 => ?_) (fun b60 => ?_)
        · refine j_aload_n dX6_person_65 rfl rfl ?_
          refine j_getf dX6_person_66 6 1 rfl (Nat.le_of_ble_eq_true rfl) fl_X6_13 in_6 mH_o rfl ?_
          refine j_bipush (nI 11) dX6_person_69 rfl ?_
          refine j_iload_n dX6_person_71 rfl rfl ?_
          first | refine j_iaddN dX6_person_72 ?_ | refine j_iadd dX6_person_72 ?_
          refine j_aload_n dX6_person_73 rfl rfl ?_
          refine j_getf dX6_person_74 6 18 rfl (Nat.le_of_ble_eq_true rfl) fl_X6_116 in_6 mH_o rfl ?_
          refine j_iast dX6_person_77 mH_a1 rfl (by omega) (by decide) _ mH_s1 ?_
          refine j_aload_n dX6_person_78 rfl rfl ?_
          refine j_getf dX6_person_79 6 15 rfl (Nat.le_of_ble_eq_true rfl) fl_X6_90 in_6 mH_o rfl ?_
          refine j_bipush (nI 7) dX6_person_82 rfl ?_
          refine j_icmp_eqN 102 dX6_person_84 (by decide) (by omega) (by omega) (fun b84 => by exact absurd (t7.mp b84) hO) (fun b84 => ?_)
          refine j_aload_n dX6_person_87 rfl rfl ?_
          refine j_getf dX6_person_88 6 15 rfl (Nat.le_of_ble_eq_true rfl) fl_X6_90 in_6 mH_o rfl ?_
          refine j_bipush (nI 8) dX6_person_91 rfl ?_
          refine j_icmp_eqN 102 dX6_person_93 (by decide) (by omega) (by omega) (fun b93 => by exact absurd (t8.mp b93) hH) (fun b93 => ?_)
          refine j_aload_n dX6_person_96 rfl rfl ?_
          refine j_iconst (nI 1) dX6_person_97 rfl ?_
          refine j_callV (m_faults 1) dX6_person_98 rfl mv_X6_113 mH_o rfl ⟨(Nat.le_of_ble_eq_true rfl), (Nat.le_of_ble_eq_true rfl)⟩ ⟨(Nat.le_of_ble_eq_true rfl), (Nat.le_of_ble_eq_true rfl)⟩ (Nat.le_of_ble_eq_true rfl) ?_
          exact j_zret .boolean rfl rfl dX6_person_101 (by unfold rPer; rw [if_pos hw, if_pos (b2I_1 b36), if_pos (b2I_1 b60), if_neg hw2]; rfl) (by unfold rPer perG; rw [if_pos hw, if_pos (b2I_1 b36), if_pos (b2I_1 b60), if_neg hw2]; rw [if_pos (b2I_1 b36), if_pos (b2I_1 b60), if_neg hw2]; rw [e2]) (Nat.le_of_ble_eq_true rfl) (Nat.le_of_ble_eq_true rfl)
        · refine j_iconst (nI 0) dX6_person_63 rfl ?_
          exact j_zret .boolean rfl rfl dX6_person_64 (by unfold rPer; rw [if_pos hw, if_pos (b2I_1 b36), if_neg (b2I_n b60)]; rfl) (by unfold rPer perG; rw [if_pos hw, if_pos (b2I_1 b36), if_neg (b2I_n b60)]; rw [if_pos (b2I_1 b36), if_neg (b2I_n b60)]) (Nat.le_of_ble_eq_true rfl) (Nat.le_of_ble_eq_true rfl)
      · refine j_iconst (nI 0) dX6_person_39 rfl ?_
        exact j_zret .boolean rfl rfl dX6_person_40 (by unfold rPer; rw [if_pos hw, if_neg (b2I_n b36)]; rfl) (by unfold rPer perG; rw [if_pos hw, if_neg (b2I_n b36)]; rw [if_neg (b2I_n b36)]) (Nat.le_of_ble_eq_true rfl) (Nat.le_of_ble_eq_true rfl)
theorem m_person7 (h2 : a1 2 = nI 7) : Ct G yX6_person cX6_person 2 (some .boolean) 5 0 0 z (mH σ a0 a1 a2 a3 a4 a5 a6 a7 a8 a9 a10 a11 i0 i1 i2 (nI len) (nI r.2.2.1) (nI r.2.1) (nI (tokR tp r)) r.2.2.2.1 r.2.2.2.2.2 r.2.2.2.2.1 i10 i11) [.ref 171] (some (.int (nI 0))) z (mH σ a0 a1 a2 a3 a4 a5 a6 a7 a8 a9 a10 a11 i0 i1 i2 (nI len) (nI (hsF 3 r).2.2.1) (nI (hsF 3 r).2.1) (nI (tokR tp (hsF 3 r))) ((hsF 3 r).2.2.2.1) ((hsF 3 r).2.2.2.2.2) ((hsF 3 r).2.2.2.2.1) i10 i11) := by
  refine Ct.ofJ RX6 rfl [some (.ref 171), none] rfl (by decide) (by simp [Value.category]) ?_
  refine j_aload_n dX6_person_0 rfl rfl ?_
  refine j_getf dX6_person_1 6 1 rfl (Nat.le_of_ble_eq_true rfl) fl_X6_13 in_6 mH_o rfl ?_
  refine j_iconst (nI 2) dX6_person_4 rfl ?_
  refine j_iald dX6_person_5 mH_a1 rfl (by omega) (by decide) ?_
  refine j_top (nI 7) h2 ?_
  refine j_bipush (nI 7) dX6_person_6 rfl ?_
  refine j_icmp_neN 17 dX6_person_8 (by decide) (by omega) (by omega) (fun b8 => by exact absurd rfl b8) (fun b8 => ?_)
  refine j_aload_n dX6_person_11 rfl rfl ?_
  refine j_iconst (nI 3) dX6_person_12 rfl ?_
  refine j_callV (m_faults 3) dX6_person_13 rfl mv_X6_113 mH_o rfl ⟨(Nat.le_of_ble_eq_true rfl), (Nat.le_of_ble_eq_true rfl)⟩ ⟨(Nat.le_of_ble_eq_true rfl), (Nat.le_of_ble_eq_true rfl)⟩ (Nat.le_of_ble_eq_true rfl) ?_
  exact j_zret .boolean rfl rfl dX6_person_16 rfl rfl (Nat.le_of_ble_eq_true rfl) (Nat.le_of_ble_eq_true rfl)
theorem m_debt20 : Ct G yX6_debt cX6_debt 4 (some .boolean) 5 0 0 z (mH σ a0 a1 a2 a3 a4 a5 a6 a7 a8 a9 a10 a11 i0 i1 i2 (nI len) (nI r.2.2.1) (nI r.2.1) (nI (tokR tp r)) r.2.2.2.1 r.2.2.2.2.2 r.2.2.2.2.1 i10 i11) [.ref 171, .int (nI 20)] (some (.int (nI 0))) z (mH σ a0 a1 a2 a3 a4 a5 a6 a7 a8 a9 a10 a11 i0 i1 i2 (nI len) (nI (hsF 3 r).2.2.1) (nI (hsF 3 r).2.1) (nI (tokR tp (hsF 3 r))) ((hsF 3 r).2.2.2.1) ((hsF 3 r).2.2.2.2.2) ((hsF 3 r).2.2.2.2.1) i10 i11) := by
  refine Ct.ofJ RX6 rfl [some (.ref 171), some (.int (nI 20)), none, none] rfl (by decide) (by simp [Value.category]) ?_
  refine j_iload_n dX6_debt_0 rfl rfl ?_
  refine j_bipush (nI 20) dX6_debt_1 rfl ?_
  refine j_icmp_neN 12 dX6_debt_3 (by decide) (by omega) (by omega) (fun b3 => by exact absurd rfl b3) (fun b3 => ?_)
  refine j_aload_n dX6_debt_6 rfl rfl ?_
  refine j_iconst (nI 3) dX6_debt_7 rfl ?_
  refine j_callV (m_faults 3) dX6_debt_8 rfl mv_X6_113 mH_o rfl ⟨(Nat.le_of_ble_eq_true rfl), (Nat.le_of_ble_eq_true rfl)⟩ ⟨(Nat.le_of_ble_eq_true rfl), (Nat.le_of_ble_eq_true rfl)⟩ (Nat.le_of_ble_eq_true rfl) ?_
  exact j_zret .boolean rfl rfl dX6_debt_11 rfl rfl (Nat.le_of_ble_eq_true rfl) (Nat.le_of_ble_eq_true rfl)
theorem m_debt {k : Nat} (hat : atI tp r 4 = true) (hk : k < 20) (h2 : a1 2 = nI (sN s)) (hN : sN s ≤ 7) (h1N : 1 ≤ sN s) (hb : bOK tp) (h8 : ∀ j, a8 j = ubI (tp j)) (hl : len ≤ 400) (hr : rOK len r) : Ct G yX6_debt cX6_debt 4 (some .boolean) 5 0 0 z (mH σ a0 a1 a2 a3 a4 a5 a6 a7 a8 a9 a10 a11 i0 i1 i2 (nI len) (nI r.2.2.1) (nI r.2.1) (nI (tokR tp r)) r.2.2.2.1 r.2.2.2.2.2 r.2.2.2.2.1 i10 i11) [.ref 171, .int (nI k)] (some (.int (b2I (rDbt tp len r s).1))) z (mH σ a0 (dbtG tp len r s a1) a2 a3 a4 a5 a6 a7 a8 a9 a10 a11 i0 i1 i2 (nI len) (nI ((rDbt tp len r s).2.1).2.2.1) (nI ((rDbt tp len r s).2.1).2.1) (nI (tokR tp ((rDbt tp len r s).2.1))) (((rDbt tp len r s).2.1).2.2.2.1) (((rDbt tp len r s).2.1).2.2.2.2.2) (((rDbt tp len r s).2.1).2.2.2.2.1) i10 i11) := by
  refine Ct.ofJ RX6 rfl [some (.ref 171), some (.int (nI k)), none, none] rfl (by decide) (by simp [Value.category]) ?_
  have e0 : (tWord tp len 4 r) = (true, nextT tp len r) := by unfold tWord; rw [if_pos hat]
  have hw : (tWord tp len 4 r).1 = true := by rw [e0]
  have t2 := tok_2 (tp := tp) (r := (tNum tp len (nI 0) (nI (sN s - 1)) (-1) (tWord tp len 4 r).2).2)
  have h8t := tok_le (tp := tp) (r := (tNum tp len (nI 0) (nI (sN s - 1)) (-1) (tWord tp len 4 r).2).2)
  refine j_iload_n dX6_debt_0 rfl rfl ?_
  refine j_bipush (nI 20) dX6_debt_1 rfl ?_
  refine j_icmp_neN 12 dX6_debt_3 (by decide) (by omega) (by omega) (fun b3 => ?_) (fun b3 => by exfalso; omega)
  refine j_aload_n dX6_debt_12 rfl rfl ?_
  refine j_callV (m_scansR hb h8 hl hr.2) dX6_debt_13 rfl mv_X6_119 mH_o rfl ⟨(Nat.le_of_ble_eq_true rfl), (Nat.le_of_ble_eq_true rfl)⟩ ⟨(Nat.le_of_ble_eq_true rfl), (Nat.le_of_ble_eq_true rfl)⟩ (Nat.le_of_ble_eq_true rfl) ?_
  rw [show nextT tp len r = (tWord tp len 4 r).2 from by rw [e0]]
  refine j_aload_n dX6_debt_16 rfl rfl ?_
  refine j_iconst (nI 0) dX6_debt_17 rfl ?_
  refine j_aload_n dX6_debt_18 rfl rfl ?_
  refine j_getf dX6_debt_19 6 1 rfl (Nat.le_of_ble_eq_true rfl) fl_X6_13 in_6 mH_o rfl ?_
  refine j_iconst (nI 2) dX6_debt_22 rfl ?_
  refine j_iald dX6_debt_23 mH_a1 rfl (by omega) (by decide) ?_
  refine j_top (nI (sN s)) h2 ?_
  refine j_iconst (nI 1) dX6_debt_24 rfl ?_
  refine j_isubN dX6_debt_25 h1N ?_
  refine j_callV (m_takes (nI 0) (nI (sN s - 1)) (by decide) hb h8 hl (tWord_ok hr)) dX6_debt_26 rfl mv_X6_122 mH_o rfl ⟨(Nat.le_of_ble_eq_true rfl), (Nat.le_of_ble_eq_true rfl)⟩ ⟨(Nat.le_of_ble_eq_true rfl), (Nat.le_of_ble_eq_true rfl)⟩ (Nat.le_of_ble_eq_true rfl) ?_
  refine j_if_ne 34 dX6_debt_29 (by decide) (fun b29 => ?_) (fun b29 => ?_)
  · refine j_aload_n dX6_debt_34 rfl rfl ?_
    refine j_getf dX6_debt_35 6 18 rfl (Nat.le_of_ble_eq_true rfl) fl_X6_116 in_6 mH_o rfl ?_
    refine j_istore_n dX6_debt_38 rfl (Nat.le_of_ble_eq_true rfl) rfl ?_
    refine j_aload_n dX6_debt_39 rfl rfl ?_
    refine j_getf dX6_debt_40 6 15 rfl (Nat.le_of_ble_eq_true rfl) fl_X6_90 in_6 mH_o rfl ?_
    refine j_iconst (nI 2) dX6_debt_43 rfl ?_
    refine j_icmp_neN 61 dX6_debt_44 (by decide) (by omega) (by omega) (fun b44 => ?_) (fun b44 => ?_)
    · have hne : ¬ ((tNum tp len (nI 0) (nI (sN s - 1)) (-1) (tWord tp len 4 r).2).2.1 = 2 ∧ (tNum tp len (nI 0) (nI (sN s - 1)) (-1) (tWord tp len 4 r).2).2.2.2.2.1 = (tNum tp len (nI 0) (nI (sN s - 1)) (-1) (tWord tp len 4 r).2).2.2.2.2.2.1) := by first | exact fun q => b44 (t2.mpr q.1) | exact fun q => b52 q.2
      refine j_aload_n dX6_debt_61 rfl rfl ?_
      refine j_iconst (nI 0) dX6_debt_62 rfl ?_
      refine j_aload_n dX6_debt_63 rfl rfl ?_
      refine j_getf dX6_debt_64 6 1 rfl (Nat.le_of_ble_eq_true rfl) fl_X6_13 in_6 mH_o rfl ?_
      refine j_iconst (nI 2) dX6_debt_67 rfl ?_
      refine j_iald dX6_debt_68 mH_a1 rfl (by omega) (by decide) ?_
      refine j_top (nI (sN s)) h2 ?_
      refine j_iconst (nI 1) dX6_debt_69 rfl ?_
      refine j_isubN dX6_debt_70 h1N ?_
      refine j_callV (m_takesX (nI 0) (nI (sN s - 1)) (tNum tp len (nI 0) (nI (sN s - 1)) (-1) (tWord tp len 4 r).2).2.2.2.2.2.1 (by decide) hne hb h8 hl (tNum_ok (tWord_ok hr))) dX6_debt_71 rfl mv_X6_122 mH_o rfl ⟨(Nat.le_of_ble_eq_true rfl), (Nat.le_of_ble_eq_true rfl)⟩ ⟨(Nat.le_of_ble_eq_true rfl), (Nat.le_of_ble_eq_true rfl)⟩ (Nat.le_of_ble_eq_true rfl) ?_
      refine j_if_ne 79 dX6_debt_74 (by decide) (fun b74 => ?_) (fun b74 => ?_)
      · obtain ⟨ha, hbb, ea, eb⟩ := dbt_ab (tp := tp) (len := len) (r := r) hN h1N (b2I_1 b29) (b2I_1 b74)
        refine j_aload_n dX6_debt_79 rfl rfl ?_
        refine j_getf dX6_debt_80 6 18 rfl (Nat.le_of_ble_eq_true rfl) fl_X6_116 in_6 mH_o rfl ?_
        refine j_istore_n dX6_debt_83 rfl (Nat.le_of_ble_eq_true rfl) rfl ?_
        refine j_aload_n dX6_debt_84 rfl rfl ?_
        refine j_iconst (nI 1) dX6_debt_85 rfl ?_
        refine j_sipush (nI 999) dX6_debt_86 rfl ?_
        refine j_callV (m_takes (nI 1) (nI 999) (by decide) hb h8 hl (tNum_ok (tNum_ok (tWord_ok hr)))) dX6_debt_89 rfl mv_X6_122 mH_o rfl ⟨(Nat.le_of_ble_eq_true rfl), (Nat.le_of_ble_eq_true rfl)⟩ ⟨(Nat.le_of_ble_eq_true rfl), (Nat.le_of_ble_eq_true rfl)⟩ (Nat.le_of_ble_eq_true rfl) ?_
        refine j_if_ne 97 dX6_debt_92 (by decide) (fun b92 => ?_) (fun b92 => ?_)
        · refine j_aload_n dX6_debt_97 rfl rfl ?_
          refine j_getf dX6_debt_98 6 1 rfl (Nat.le_of_ble_eq_true rfl) fl_X6_13 in_6 mH_o rfl ?_
          refine j_bipush (nI 40) dX6_debt_101 rfl ?_
          refine j_bipush (nI 7) dX6_debt_103 rfl ?_
          refine j_iload_n dX6_debt_105 rfl rfl ?_
          refine j_top (nI (clp (tNum tp len (nI 0) (nI (sN s - 1)) (-1) (tWord tp len 4 r).2).2.2.2.2.2.1)) ea.symm ?_
          first | refine j_imulN dX6_debt_106 ?_ | refine j_imul dX6_debt_106 ?_
          first | refine j_iaddN dX6_debt_107 ?_ | refine j_iadd dX6_debt_107 ?_
          refine j_iload_n dX6_debt_108 rfl rfl ?_
          refine j_top (nI (clp (tNum tp len (nI 0) (nI (sN s - 1)) (tNum tp len (nI 0) (nI (sN s - 1)) (-1) (tWord tp len 4 r).2).2.2.2.2.2.1 (tNum tp len (nI 0) (nI (sN s - 1)) (-1) (tWord tp len 4 r).2).2).2.2.2.2.2.1)) eb.symm ?_
          first | refine j_iaddN dX6_debt_109 ?_ | refine j_iadd dX6_debt_109 ?_
          refine j_dup2 dX6_debt_110 rfl rfl ?_
          refine j_iald dX6_debt_111 mH_a1 rfl (by omega) (by decide) ?_
          refine j_aload_n dX6_debt_112 rfl rfl ?_
          refine j_getf dX6_debt_113 6 18 rfl (Nat.le_of_ble_eq_true rfl) fl_X6_116 in_6 mH_o rfl ?_
          refine j_iadd dX6_debt_116 ?_
          refine j_iast dX6_debt_117 mH_a1 rfl (by omega) (by decide) _ mH_s1 ?_
          refine j_aload_n dX6_debt_118 rfl rfl ?_
          refine j_callV (m_ends hb h8 hl (tNum_ok (tNum_ok (tNum_ok (tWord_ok hr))))) dX6_debt_119 rfl mv_X6_125 mH_o rfl ⟨(Nat.le_of_ble_eq_true rfl), (Nat.le_of_ble_eq_true rfl)⟩ ⟨(Nat.le_of_ble_eq_true rfl), (Nat.le_of_ble_eq_true rfl)⟩ (Nat.le_of_ble_eq_true rfl) ?_
          exact j_zret .boolean rfl (nar_b _) dX6_debt_122 (by unfold rDbt; rw [if_pos hw, if_pos (b2I_1 b29), if_pos (b2I_1 b74), if_pos (b2I_1 b92)]) (by unfold rDbt dbtG; rw [if_pos hw, if_pos (b2I_1 b29), if_pos (b2I_1 b74), if_pos (b2I_1 b92)]; rw [if_pos (b2I_1 b29), if_pos (b2I_1 b74), if_pos (b2I_1 b92)]) (Nat.le_of_ble_eq_true rfl) (Nat.le_of_ble_eq_true rfl)
        · refine j_iconst (nI 0) dX6_debt_95 rfl ?_
          exact j_zret .boolean rfl rfl dX6_debt_96 (by unfold rDbt; rw [if_pos hw, if_pos (b2I_1 b29), if_pos (b2I_1 b74), if_neg (b2I_n b92)]; rfl) (by unfold rDbt dbtG; rw [if_pos hw, if_pos (b2I_1 b29), if_pos (b2I_1 b74), if_neg (b2I_n b92)]; rw [if_pos (b2I_1 b29), if_pos (b2I_1 b74), if_neg (b2I_n b92)]) (Nat.le_of_ble_eq_true rfl) (Nat.le_of_ble_eq_true rfl)
      · refine j_iconst (nI 0) dX6_debt_77 rfl ?_
        exact j_zret .boolean rfl rfl dX6_debt_78 (by unfold rDbt; rw [if_pos hw, if_pos (b2I_1 b29), if_neg (b2I_n b74)]; rfl) (by unfold rDbt dbtG; rw [if_pos hw, if_pos (b2I_1 b29), if_neg (b2I_n b74)]; rw [if_pos (b2I_1 b29), if_neg (b2I_n b74)]) (Nat.le_of_ble_eq_true rfl) (Nat.le_of_ble_eq_true rfl)
    · refine j_aload_n dX6_debt_47 rfl rfl ?_
      refine j_getf dX6_debt_48 6 16 rfl (Nat.le_of_ble_eq_true rfl) fl_X6_107 in_6 mH_o rfl ?_
      refine j_iload_n dX6_debt_51 rfl rfl ?_
      refine j_icmp_ne 61 dX6_debt_52 (by decide) (fun b52 => ?_) (fun b52 => ?_)
      · have hne : ¬ ((tNum tp len (nI 0) (nI (sN s - 1)) (-1) (tWord tp len 4 r).2).2.1 = 2 ∧ (tNum tp len (nI 0) (nI (sN s - 1)) (-1) (tWord tp len 4 r).2).2.2.2.2.1 = (tNum tp len (nI 0) (nI (sN s - 1)) (-1) (tWord tp len 4 r).2).2.2.2.2.2.1) := by first | exact fun q => b44 (t2.mpr q.1) | exact fun q => b52 q.2
        refine j_aload_n dX6_debt_61 rfl rfl ?_
        refine j_iconst (nI 0) dX6_debt_62 rfl ?_
        refine j_aload_n dX6_debt_63 rfl rfl ?_
        refine j_getf dX6_debt_64 6 1 rfl (Nat.le_of_ble_eq_true rfl) fl_X6_13 in_6 mH_o rfl ?_
        refine j_iconst (nI 2) dX6_debt_67 rfl ?_
        refine j_iald dX6_debt_68 mH_a1 rfl (by omega) (by decide) ?_
        refine j_top (nI (sN s)) h2 ?_
        refine j_iconst (nI 1) dX6_debt_69 rfl ?_
        refine j_isubN dX6_debt_70 h1N ?_
        refine j_callV (m_takesX (nI 0) (nI (sN s - 1)) (tNum tp len (nI 0) (nI (sN s - 1)) (-1) (tWord tp len 4 r).2).2.2.2.2.2.1 (by decide) hne hb h8 hl (tNum_ok (tWord_ok hr))) dX6_debt_71 rfl mv_X6_122 mH_o rfl ⟨(Nat.le_of_ble_eq_true rfl), (Nat.le_of_ble_eq_true rfl)⟩ ⟨(Nat.le_of_ble_eq_true rfl), (Nat.le_of_ble_eq_true rfl)⟩ (Nat.le_of_ble_eq_true rfl) ?_
        refine j_if_ne 79 dX6_debt_74 (by decide) (fun b74 => ?_) (fun b74 => ?_)
        · obtain ⟨ha, hbb, ea, eb⟩ := dbt_ab (tp := tp) (len := len) (r := r) hN h1N (b2I_1 b29) (b2I_1 b74)
          refine j_aload_n dX6_debt_79 rfl rfl ?_
          refine j_getf dX6_debt_80 6 18 rfl (Nat.le_of_ble_eq_true rfl) fl_X6_116 in_6 mH_o rfl ?_
          refine j_istore_n dX6_debt_83 rfl (Nat.le_of_ble_eq_true rfl) rfl ?_
          refine j_aload_n dX6_debt_84 rfl rfl ?_
          refine j_iconst (nI 1) dX6_debt_85 rfl ?_
          refine j_sipush (nI 999) dX6_debt_86 rfl ?_
          refine j_callV (m_takes (nI 1) (nI 999) (by decide) hb h8 hl (tNum_ok (tNum_ok (tWord_ok hr)))) dX6_debt_89 rfl mv_X6_122 mH_o rfl ⟨(Nat.le_of_ble_eq_true rfl), (Nat.le_of_ble_eq_true rfl)⟩ ⟨(Nat.le_of_ble_eq_true rfl), (Nat.le_of_ble_eq_true rfl)⟩ (Nat.le_of_ble_eq_true rfl) ?_
          refine j_if_ne 97 dX6_debt_92 (by decide) (fun b92 => ?_) (fun b92 => ?_)
          · refine j_aload_n dX6_debt_97 rfl rfl ?_
            refine j_getf dX6_debt_98 6 1 rfl (Nat.le_of_ble_eq_true rfl) fl_X6_13 in_6 mH_o rfl ?_
            refine j_bipush (nI 40) dX6_debt_101 rfl ?_
            refine j_bipush (nI 7) dX6_debt_103 rfl ?_
            refine j_iload_n dX6_debt_105 rfl rfl ?_
            refine j_top (nI (clp (tNum tp len (nI 0) (nI (sN s - 1)) (-1) (tWord tp len 4 r).2).2.2.2.2.2.1)) ea.symm ?_
            first | refine j_imulN dX6_debt_106 ?_ | refine j_imul dX6_debt_106 ?_
            first | refine j_iaddN dX6_debt_107 ?_ | refine j_iadd dX6_debt_107 ?_
            refine j_iload_n dX6_debt_108 rfl rfl ?_
            refine j_top (nI (clp (tNum tp len (nI 0) (nI (sN s - 1)) (tNum tp len (nI 0) (nI (sN s - 1)) (-1) (tWord tp len 4 r).2).2.2.2.2.2.1 (tNum tp len (nI 0) (nI (sN s - 1)) (-1) (tWord tp len 4 r).2).2).2.2.2.2.2.1)) eb.symm ?_
            first | refine j_iaddN dX6_debt_109 ?_ | refine j_iadd dX6_debt_109 ?_
            refine j_dup2 dX6_debt_110 rfl rfl ?_
            refine j_iald dX6_debt_111 mH_a1 rfl (by omega) (by decide) ?_
            refine j_aload_n dX6_debt_112 rfl rfl ?_
            refine j_getf dX6_debt_113 6 18 rfl (Nat.le_of_ble_eq_true rfl) fl_X6_116 in_6 mH_o rfl ?_
            refine j_iadd dX6_debt_116 ?_
            refine j_iast dX6_debt_117 mH_a1 rfl (by omega) (by decide) _ mH_s1 ?_
            refine j_aload_n dX6_debt_118 rfl rfl ?_
            refine j_callV (m_ends hb h8 hl (tNum_ok (tNum_ok (tNum_ok (tWord_ok hr))))) dX6_debt_119 rfl mv_X6_125 mH_o rfl ⟨(Nat.le_of_ble_eq_true rfl), (Nat.le_of_ble_eq_true rfl)⟩ ⟨(Nat.le_of_ble_eq_true rfl), (Nat.le_of_ble_eq_true rfl)⟩ (Nat.le_of_ble_eq_true rfl) ?_
            exact j_zret .boolean rfl (nar_b _) dX6_debt_122 (by unfold rDbt; rw [if_pos hw, if_pos (b2I_1 b29), if_pos (b2I_1 b74), if_pos (b2I_1 b92)]) (by unfold rDbt dbtG; rw [if_pos hw, if_pos (b2I_1 b29), if_pos (b2I_1 b74), if_pos (b2I_1 b92)]; rw [if_pos (b2I_1 b29), if_pos (b2I_1 b74), if_pos (b2I_1 b92)]) (Nat.le_of_ble_eq_true rfl) (Nat.le_of_ble_eq_true rfl)
          · refine j_iconst (nI 0) dX6_debt_95 rfl ?_
            exact j_zret .boolean rfl rfl dX6_debt_96 (by unfold rDbt; rw [if_pos hw, if_pos (b2I_1 b29), if_pos (b2I_1 b74), if_neg (b2I_n b92)]; rfl) (by unfold rDbt dbtG; rw [if_pos hw, if_pos (b2I_1 b29), if_pos (b2I_1 b74), if_neg (b2I_n b92)]; rw [if_pos (b2I_1 b29), if_pos (b2I_1 b74), if_neg (b2I_n b92)]) (Nat.le_of_ble_eq_true rfl) (Nat.le_of_ble_eq_true rfl)
        · refine j_iconst (nI 0) dX6_debt_77 rfl ?_
          exact j_zret .boolean rfl rfl dX6_debt_78 (by unfold rDbt; rw [if_pos hw, if_pos (b2I_1 b29), if_neg (b2I_n b74)]; rfl) (by unfold rDbt dbtG; rw [if_pos hw, if_pos (b2I_1 b29), if_neg (b2I_n b74)]; rw [if_pos (b2I_1 b29), if_neg (b2I_n b74)]) (Nat.le_of_ble_eq_true rfl) (Nat.le_of_ble_eq_true rfl)
      · refine j_aload_n dX6_debt_55 rfl rfl ?_
        refine j_iconst (nI 2) dX6_debt_56 rfl ?_
        refine j_callV (m_faults 2) dX6_debt_57 rfl mv_X6_113 mH_o rfl ⟨(Nat.le_of_ble_eq_true rfl), (Nat.le_of_ble_eq_true rfl)⟩ ⟨(Nat.le_of_ble_eq_true rfl), (Nat.le_of_ble_eq_true rfl)⟩ (Nat.le_of_ble_eq_true rfl) ?_
        exact j_zret .boolean rfl rfl dX6_debt_60 (by unfold rDbt; rw [if_pos hw, if_pos (b2I_1 b29), tNum_is (t2.mp b44) b52, if_neg f_ne_t]; rfl) (by unfold rDbt dbtG; rw [if_pos hw, if_pos (b2I_1 b29), tNum_is (t2.mp b44) b52, if_neg f_ne_t]; rw [if_pos (b2I_1 b29), if_neg f_ne_t]) (Nat.le_of_ble_eq_true rfl) (Nat.le_of_ble_eq_true rfl)
  · refine j_iconst (nI 0) dX6_debt_32 rfl ?_
    exact j_zret .boolean rfl rfl dX6_debt_33 (by unfold rDbt; rw [if_pos hw, if_neg (b2I_n b29)]; rfl) (by unfold rDbt dbtG; rw [if_pos hw, if_neg (b2I_n b29)]; rw [if_neg (b2I_n b29)]) (Nat.le_of_ble_eq_true rfl) (Nat.le_of_ble_eq_true rfl)
theorem mr_debts (hb : bOK tp) (h8 : ∀ j, a8 j = ubI (tp j)) (hl : len ≤ 400) (hr : rOK len r) (hs : sOK r) (hN : sN s ≤ 7) (h1N : 1 ≤ sN s) (h0 : dfD s 0) : J G RX6 cX6_reads 2 (some .boolean) (TQ G 6 0 0 (some (.int (b2I (dOut tp len r s).1))) z (mH σ a0 (dbsG tp len 20 r s) a2 a3 a4 a5 a6 a7 a8 a9 a10 a11 i0 i1 i2 (nI len) (nI ((dOut tp len r s).2).2.2.1) (nI ((dOut tp len r s).2).2.1) (nI (tokR tp ((dOut tp len r s).2))) (((dOut tp len r s).2).2.2.2.1) (((dOut tp len r s).2).2.2.2.2.2) (((dOut tp len r s).2).2.2.2.2.1) i10 i11)) z (mH σ a0 (encT s) a2 a3 a4 a5 a6 a7 a8 a9 a10 a11 i0 i1 i2 (nI len) (nI r.2.2.1) (nI r.2.1) (nI (tokR tp r)) r.2.2.2.1 r.2.2.2.2.2 r.2.2.2.2.1 i10 i11) 0 0 72 [some (.ref 171), some (.int (nI 0))] [] := by
  suffices H : ∀ (f k : Nat) (r2 : RS) (s2 : TS), k + f = 20 → sN s2 = sN s → dfD s2 k → rOK len r2 → sOK r2 → dbtL tp len 20 r s = dbtL tp len f r2 s2 → dbsG tp len 20 r s = dbsG tp len f r2 s2 → J G RX6 cX6_reads 2 (some .boolean) (TQ G 6 0 0 (some (.int (b2I (dOut tp len r s).1))) z (mH σ a0 (dbsG tp len 20 r s) a2 a3 a4 a5 a6 a7 a8 a9 a10 a11 i0 i1 i2 (nI len) (nI ((dOut tp len r s).2).2.2.1) (nI ((dOut tp len r s).2).2.1) (nI (tokR tp ((dOut tp len r s).2))) (((dOut tp len r s).2).2.2.2.1) (((dOut tp len r s).2).2.2.2.2.2) (((dOut tp len r s).2).2.2.2.2.1) i10 i11)) z (mH σ a0 (encT s2) a2 a3 a4 a5 a6 a7 a8 a9 a10 a11 i0 i1 i2 (nI len) (nI r2.2.2.1) (nI r2.2.1) (nI (tokR tp r2)) r2.2.2.2.1 r2.2.2.2.2.2 r2.2.2.2.2.1 i10 i11) 0 0 72 [some (.ref 171), some (.int (nI k))] [] from H 20 0 r s rfl rfl h0 hr hs rfl rfl
  have hend : ∀ (k : Nat) (r2 : RS) (s2 : TS), dbtL tp len 20 r s = (true, r2, s2) → ¬ atI tp r2 4 = true → dbsG tp len 20 r s = encT s2 → J G RX6 cX6_reads 2 (some .boolean) (TQ G 6 0 0 (some (.int (b2I (dOut tp len r s).1))) z (mH σ a0 (dbsG tp len 20 r s) a2 a3 a4 a5 a6 a7 a8 a9 a10 a11 i0 i1 i2 (nI len) (nI ((dOut tp len r s).2).2.2.1) (nI ((dOut tp len r s).2).2.1) (nI (tokR tp ((dOut tp len r s).2))) (((dOut tp len r s).2).2.2.2.1) (((dOut tp len r s).2).2.2.2.2.2) (((dOut tp len r s).2).2.2.2.2.1) i10 i11)) z (mH σ a0 (encT s2) a2 a3 a4 a5 a6 a7 a8 a9 a10 a11 i0 i1 i2 (nI len) (nI r2.2.2.1) (nI r2.2.1) (nI (tokR tp r2)) r2.2.2.2.1 r2.2.2.2.2.2 r2.2.2.2.2.1 i10 i11) 0 0 97 [some (.ref 171), some (.int (nI k))] [] := by
    intro k r2 s2 he hn hg
    have hD : rDbts tp len r s = (true, r2, s2) := by unfold rDbts; rw [he, if_pos rfl, if_neg hn]
    have hO : dOut tp len r s = if r2.1 = 0 then (true, r2) else (false, hsF 1 r2) := by unfold dOut; rw [hD, if_pos rfl]
    have h8t := tok_le (tp := tp) (r := r2)
    have t0 := tok_0 (tp := tp) (r := r2)
    by_cases q0 : r2.1 = 0
    · rw [hO, if_pos q0, hg]
      refine j_aload_n dX6_reads_97 rfl rfl ?_
      refine j_getf dX6_reads_98 6 15 rfl (Nat.le_of_ble_eq_true rfl) fl_X6_90 in_6 mH_o rfl ?_
      refine j_top (nI 0) (by rw [t0.mpr q0]) ?_
      refine j_if_eq 112 dX6_reads_101 (by decide) (fun _ => ?_) (fun h => absurd rfl h)
      refine j_iconst (nI 1) dX6_reads_112 rfl ?_
      refine j_goto 117 dX6_reads_113 (by decide) ?_
      exact j_zret .boolean rfl rfl dX6_reads_117 rfl rfl (Nat.le_of_ble_eq_true rfl) (Nat.le_of_ble_eq_true rfl)
    · rw [hO, if_neg q0, hg]
      refine j_aload_n dX6_reads_97 rfl rfl ?_
      refine j_getf dX6_reads_98 6 15 rfl (Nat.le_of_ble_eq_true rfl) fl_X6_90 in_6 mH_o rfl ?_
      refine j_if_eq 112 dX6_reads_101 (by decide) (fun b101 => by exact absurd b101 (nI_ne0 (by have := mt t0.mp q0; omega) (by omega))) (fun b101 => ?_)
      refine j_aload_n dX6_reads_104 rfl rfl ?_
      refine j_iconst (nI 1) dX6_reads_105 rfl ?_
      refine j_callV (m_faults 1) dX6_reads_106 rfl mv_X6_113 mH_o rfl ⟨(Nat.le_of_ble_eq_true rfl), (Nat.le_of_ble_eq_true rfl)⟩ ⟨(Nat.le_of_ble_eq_true rfl), (Nat.le_of_ble_eq_true rfl)⟩ (Nat.le_of_ble_eq_true rfl) ?_
      refine j_top (nI 0) rfl ?_
      refine j_if_eq 116 dX6_reads_109 (by decide) (fun _ => ?_) (fun h => absurd rfl h)
      refine j_iconst (nI 0) dX6_reads_116 rfl ?_
      exact j_zret .boolean rfl rfl dX6_reads_117 rfl rfl (Nat.le_of_ble_eq_true rfl) (Nat.le_of_ble_eq_true rfl)
  intro f
  induction f with
  | zero =>
    intro k r2 s2 hk hn hd hr2 hs2 he hg
    obtain rfl : k = 20 := by omega
    have t6 := tok_w4 (tp := tp) (r := r2)
    have h8t := tok_le (tp := tp) (r := r2)
    by_cases q : atI tp r2 4 = true
    · have hD : rDbts tp len r s = (false, hsF 3 r2, s2) := by unfold rDbts; rw [he]; unfold dbtL; rw [if_pos rfl, if_pos q]
      have hO : dOut tp len r s = (false, hsF 3 r2) := by unfold dOut; rw [hD, if_neg f_ne_t]
      rw [hO, hg]
      unfold dbsG
      refine j_aload_n dX6_reads_72 rfl rfl ?_
      refine j_getf dX6_reads_73 6 15 rfl (Nat.le_of_ble_eq_true rfl) fl_X6_90 in_6 mH_o rfl ?_
      refine j_bipush (nI 6) dX6_reads_76 rfl ?_
      refine j_icmp_neN 97 dX6_reads_78 (by decide) (by omega) (by omega) (fun b78 => by exact absurd (t6.mpr q) b78) (fun b78 => ?_)
      refine j_aload_n dX6_reads_81 rfl rfl ?_
      refine j_iload_n dX6_reads_82 rfl rfl ?_
      refine j_callV m_debt20 dX6_reads_83 rfl mv_X6_135 mH_o rfl ⟨(Nat.le_of_ble_eq_true rfl), (Nat.le_of_ble_eq_true rfl)⟩ ⟨(Nat.le_of_ble_eq_true rfl), (Nat.le_of_ble_eq_true rfl)⟩ (Nat.le_of_ble_eq_true rfl) ?_
      refine j_top (nI 0) rfl ?_
      refine j_if_ne 91 dX6_reads_86 (by decide) (fun h => absurd rfl h) (fun _ => ?_)
      refine j_iconst (nI 0) dX6_reads_89 rfl ?_
      exact j_zret .boolean rfl rfl dX6_reads_90 rfl rfl (Nat.le_of_ble_eq_true rfl) (Nat.le_of_ble_eq_true rfl)
    · refine j_aload_n dX6_reads_72 rfl rfl ?_
      refine j_getf dX6_reads_73 6 15 rfl (Nat.le_of_ble_eq_true rfl) fl_X6_90 in_6 mH_o rfl ?_
      refine j_bipush (nI 6) dX6_reads_76 rfl ?_
      refine j_icmp_neN 97 dX6_reads_78 (by decide) (by omega) (by omega) (fun b78 => ?_) (fun b78 => by exact absurd (t6.mp b78) q)
      exact hend 20 r2 s2 he q hg
  | succ f ih =>
    intro k r2 s2 hk hn hd hr2 hs2 he hg
    have t6 := tok_w4 (tp := tp) (r := r2)
    have h8t := tok_le (tp := tp) (r := r2)
    have ok := rDbt_ok (tp := tp) (s := s2) hr2 hs2
    have he2 : dbtL tp len 20 r s = if atI tp r2 4 = true then (if (rDbt tp len r2 s2).1 = true then dbtL tp len f (rDbt tp len r2 s2).2.1 (rDbt tp len r2 s2).2.2 else (false, (rDbt tp len r2 s2).2.1, (rDbt tp len r2 s2).2.2)) else (true, r2, s2) := he
    have hg2 : dbsG tp len 20 r s = if atI tp r2 4 = true then (if (rDbt tp len r2 s2).1 = true then dbsG tp len f (rDbt tp len r2 s2).2.1 (rDbt tp len r2 s2).2.2 else dbtG tp len r2 s2 (encT s2)) else encT s2 := hg
    by_cases q : atI tp r2 4 = true
    · rw [if_pos q] at he2 hg2
      by_cases q2 : (rDbt tp len r2 s2).1 = true
      · rw [if_pos q2] at he2 hg2
        have g := dbtG_ok hd (by omega) (by rw [hn]; exact hN) (by rw [hn]; exact h1N) q2
        refine j_aload_n dX6_reads_72 rfl rfl ?_
        refine j_getf dX6_reads_73 6 15 rfl (Nat.le_of_ble_eq_true rfl) fl_X6_90 in_6 mH_o rfl ?_
        refine j_bipush (nI 6) dX6_reads_76 rfl ?_
        refine j_icmp_neN 97 dX6_reads_78 (by decide) (by omega) (by omega) (fun b78 => by exact absurd (t6.mpr q) b78) (fun b78 => ?_)
        refine j_aload_n dX6_reads_81 rfl rfl ?_
        refine j_iload_n dX6_reads_82 rfl rfl ?_
        refine j_callV (m_debt (s := s2) q (by omega) enc_n (by rw [hn]; exact hN) (by rw [hn]; exact h1N) hb h8 hl hr2) dX6_reads_83 rfl mv_X6_135 mH_o rfl ⟨(Nat.le_of_ble_eq_true rfl), (Nat.le_of_ble_eq_true rfl)⟩ ⟨(Nat.le_of_ble_eq_true rfl), (Nat.le_of_ble_eq_true rfl)⟩ (Nat.le_of_ble_eq_true rfl) ?_
        refine j_top (nI 1) (by rw [q2]; rfl) ?_
        refine j_if_ne 91 dX6_reads_86 (by decide) (fun _ => ?_) (fun h => absurd h (by decide))
        first | refine j_iincN dX6_reads_91 rfl (Nat.le_of_ble_eq_true rfl) rfl ?_ | refine j_iinc _ dX6_reads_91 rfl rfl (Nat.le_of_ble_eq_true rfl) rfl ?_
        refine j_goto 72 dX6_reads_94 (by decide) ?_
        rw [g.1]
        exact ih (k + 1) _ _ (by omega) (ok.2.2.trans hn) g.2 ok.1 ok.2.1 he2 hg2
      · have hf : (rDbt tp len r2 s2).1 = false := by cases w : (rDbt tp len r2 s2).1 with | true => exact absurd w q2 | false => rfl
        rw [if_neg q2] at he2 hg2
        have hD : rDbts tp len r s = (false, (rDbt tp len r2 s2).2.1, (rDbt tp len r2 s2).2.2) := by unfold rDbts; rw [he2, if_neg f_ne_t]
        have hO : dOut tp len r s = (false, (rDbt tp len r2 s2).2.1) := by unfold dOut; rw [hD, if_neg f_ne_t]
        rw [hO, hg2]
        refine j_aload_n dX6_reads_72 rfl rfl ?_
        refine j_getf dX6_reads_73 6 15 rfl (Nat.le_of_ble_eq_true rfl) fl_X6_90 in_6 mH_o rfl ?_
        refine j_bipush (nI 6) dX6_reads_76 rfl ?_
        refine j_icmp_neN 97 dX6_reads_78 (by decide) (by omega) (by omega) (fun b78 => by exact absurd (t6.mpr q) b78) (fun b78 => ?_)
        refine j_aload_n dX6_reads_81 rfl rfl ?_
        refine j_iload_n dX6_reads_82 rfl rfl ?_
        refine j_callV (m_debt (s := s2) q (by omega) enc_n (by rw [hn]; exact hN) (by rw [hn]; exact h1N) hb h8 hl hr2) dX6_reads_83 rfl mv_X6_135 mH_o rfl ⟨(Nat.le_of_ble_eq_true rfl), (Nat.le_of_ble_eq_true rfl)⟩ ⟨(Nat.le_of_ble_eq_true rfl), (Nat.le_of_ble_eq_true rfl)⟩ (Nat.le_of_ble_eq_true rfl) ?_
        refine j_top (nI 0) (by rw [hf]; rfl) ?_
        refine j_if_ne 91 dX6_reads_86 (by decide) (fun h => absurd rfl h) (fun _ => ?_)
        refine j_iconst (nI 0) dX6_reads_89 rfl ?_
        exact j_zret .boolean rfl rfl dX6_reads_90 rfl rfl (Nat.le_of_ble_eq_true rfl) (Nat.le_of_ble_eq_true rfl)
    · rw [if_neg q] at he2 hg2
      refine j_aload_n dX6_reads_72 rfl rfl ?_
      refine j_getf dX6_reads_73 6 15 rfl (Nat.le_of_ble_eq_true rfl) fl_X6_90 in_6 mH_o rfl ?_
      refine j_bipush (nI 6) dX6_reads_76 rfl ?_
      refine j_icmp_neN 97 dX6_reads_78 (by decide) (by omega) (by omega) (fun b78 => ?_) (fun b78 => by exact absurd (t6.mp b78) q)
      exact hend k r2 s2 he2 q hg2
theorem mr_people (hb : bOK tp) (h8 : ∀ j, a8 j = ubI (tp j)) (hl : len ≤ 400) (hat : atI tp r 1 = true) (hr : rOK len r) (hs : sOK r) (hN : sN s = 0) (h0 : dfP s) : J G RX6 cX6_reads 2 (some .boolean) (TQ G 6 0 0 (some (.int (b2I (pOut tp len r s).1))) z (mH σ a0 (pArr tp len r s) a2 a3 a4 a5 a6 a7 a8 a9 a10 a11 i0 i1 i2 (nI len) (nI ((pOut tp len r s).2).2.2.1) (nI ((pOut tp len r s).2).2.1) (nI (tokR tp ((pOut tp len r s).2))) (((pOut tp len r s).2).2.2.2.1) (((pOut tp len r s).2).2.2.2.2.2) (((pOut tp len r s).2).2.2.2.2.1) i10 i11)) z (mH σ a0 (encT s) a2 a3 a4 a5 a6 a7 a8 a9 a10 a11 i0 i1 i2 (nI len) (nI r.2.2.1) (nI r.2.1) (nI (tokR tp r)) r.2.2.2.1 r.2.2.2.2.2 r.2.2.2.2.1 i10 i11) 0 0 53 [some (.ref 171), some (.int (nI 96))] [] := by
  suffices H : ∀ (f : Nat) (r2 : RS) (s2 : TS), sN s2 + f = 7 → dfP s2 → rOK len r2 → sOK r2 → pplL tp len 7 r s = pplL tp len f r2 s2 → pplG tp len 7 r s = pplG tp len f r2 s2 → J G RX6 cX6_reads 2 (some .boolean) (TQ G 6 0 0 (some (.int (b2I (pOut tp len r s).1))) z (mH σ a0 (pArr tp len r s) a2 a3 a4 a5 a6 a7 a8 a9 a10 a11 i0 i1 i2 (nI len) (nI ((pOut tp len r s).2).2.2.1) (nI ((pOut tp len r s).2).2.1) (nI (tokR tp ((pOut tp len r s).2))) (((pOut tp len r s).2).2.2.2.1) (((pOut tp len r s).2).2.2.2.2.2) (((pOut tp len r s).2).2.2.2.2.1) i10 i11)) z (mH σ a0 (encT s2) a2 a3 a4 a5 a6 a7 a8 a9 a10 a11 i0 i1 i2 (nI len) (nI r2.2.2.1) (nI r2.2.1) (nI (tokR tp r2)) r2.2.2.2.1 r2.2.2.2.2.2 r2.2.2.2.2.1 i10 i11) 0 0 53 [some (.ref 171), some (.int (nI 96))] [] from H 7 r s (by omega) h0 hr hs rfl rfl
  have hend : ∀ (r2 : RS) (s2 : TS), dfP s2 → rOK len r2 → sOK r2 → pplL tp len 7 r s = (true, r2, s2) → ¬ atI tp r2 1 = true → J G RX6 cX6_reads 2 (some .boolean) (TQ G 6 0 0 (some (.int (b2I (pOut tp len r s).1))) z (mH σ a0 (pArr tp len r s) a2 a3 a4 a5 a6 a7 a8 a9 a10 a11 i0 i1 i2 (nI len) (nI ((pOut tp len r s).2).2.2.1) (nI ((pOut tp len r s).2).2.1) (nI (tokR tp ((pOut tp len r s).2))) (((pOut tp len r s).2).2.2.2.1) (((pOut tp len r s).2).2.2.2.2.2) (((pOut tp len r s).2).2.2.2.2.1) i10 i11)) z (mH σ a0 (encT s2) a2 a3 a4 a5 a6 a7 a8 a9 a10 a11 i0 i1 i2 (nI len) (nI r2.2.2.1) (nI r2.2.1) (nI (tokR tp r2)) r2.2.2.2.1 r2.2.2.2.2.2 r2.2.2.2.2.1 i10 i11) 0 0 70 [some (.ref 171), some (.int (nI 96))] [] := by
    intro r2 s2 hd hr2 hs2 he hn
    have hP : rPpl tp len r s = (true, r2, s2) := by unfold rPpl; rw [if_pos hat, he, if_pos rfl, if_neg hn]
    have oP := rPpl_ok (tp := tp) (s := s) hr hs hN
    rw [hP] at oP
    have hNN := oP.2.2 rfl
    have hO : pOut tp len r s = dOut tp len r2 s2 := by unfold pOut; rw [hP, if_pos rfl]
    have hA : pArr tp len r s = dbsG tp len 20 r2 s2 := by unfold pArr; rw [hP, if_pos rfl]
    rw [hO, hA]
    refine j_iconst (nI 0) dX6_reads_70 rfl ?_
    refine j_istore_n dX6_reads_71 rfl (Nat.le_of_ble_eq_true rfl) rfl ?_
    exact mr_debts hb h8 hl hr2 hs2 hNN.2 hNN.1 (dfP_dfD hd)
  intro f
  induction f with
  | zero =>
    intro r2 s2 hk hd hr2 hs2 he hg
    have t5 := tok_w1 (tp := tp) (r := r2)
    have h8t := tok_le (tp := tp) (r := r2)
    by_cases q : atI tp r2 1 = true
    · have hP : rPpl tp len r s = (false, hsF 3 r2, s2) := by unfold rPpl; rw [if_pos hat, he]; unfold pplL; rw [if_pos rfl, if_pos q]
      have hO : pOut tp len r s = (false, hsF 3 r2) := by unfold pOut; rw [hP, if_neg f_ne_t]
      have hA : pArr tp len r s = encT s2 := by unfold pArr; rw [hP, if_neg f_ne_t, hg]; rfl
      rw [hO, hA]
      refine j_aload_n dX6_reads_53 rfl rfl ?_
      refine j_getf dX6_reads_54 6 15 rfl (Nat.le_of_ble_eq_true rfl) fl_X6_90 in_6 mH_o rfl ?_
      refine j_iconst (nI 5) dX6_reads_57 rfl ?_
      refine j_icmp_neN 70 dX6_reads_58 (by decide) (by omega) (by omega) (fun b58 => by exact absurd (t5.mpr q) b58) (fun b58 => ?_)
      refine j_aload_n dX6_reads_61 rfl rfl ?_
      refine j_callV (m_person7 (by rw [enc_n, show sN s2 = 7 by omega])) dX6_reads_62 rfl mv_X6_132 mH_o rfl ⟨(Nat.le_of_ble_eq_true rfl), (Nat.le_of_ble_eq_true rfl)⟩ ⟨(Nat.le_of_ble_eq_true rfl), (Nat.le_of_ble_eq_true rfl)⟩ (Nat.le_of_ble_eq_true rfl) ?_
      refine j_top (nI 0) rfl ?_
      refine j_if_ne 53 dX6_reads_65 (by decide) (fun h => absurd rfl h) (fun _ => ?_)
      refine j_iconst (nI 0) dX6_reads_68 rfl ?_
      exact j_zret .boolean rfl rfl dX6_reads_69 rfl rfl (Nat.le_of_ble_eq_true rfl) (Nat.le_of_ble_eq_true rfl)
    · refine j_aload_n dX6_reads_53 rfl rfl ?_
      refine j_getf dX6_reads_54 6 15 rfl (Nat.le_of_ble_eq_true rfl) fl_X6_90 in_6 mH_o rfl ?_
      refine j_iconst (nI 5) dX6_reads_57 rfl ?_
      refine j_icmp_neN 70 dX6_reads_58 (by decide) (by omega) (by omega) (fun b58 => ?_) (fun b58 => by exact absurd (t5.mp b58) q)
      exact hend r2 s2 hd hr2 hs2 he q
  | succ f ih =>
    intro r2 s2 hk hd hr2 hs2 he hg
    have t5 := tok_w1 (tp := tp) (r := r2)
    have h8t := tok_le (tp := tp) (r := r2)
    have ok := rPer_ok (tp := tp) (s := s2) hr2 hs2
    have he2 : pplL tp len 7 r s = if atI tp r2 1 = true then (if (rPer tp len r2 s2).1 = true then pplL tp len f (rPer tp len r2 s2).2.1 (rPer tp len r2 s2).2.2 else (false, (rPer tp len r2 s2).2.1, (rPer tp len r2 s2).2.2)) else (true, r2, s2) := he
    have hg2 : pplG tp len 7 r s = if atI tp r2 1 = true then (if (rPer tp len r2 s2).1 = true then pplG tp len f (rPer tp len r2 s2).2.1 (rPer tp len r2 s2).2.2 else perG tp len r2 (sN s2) (encT s2)) else encT s2 := hg
    by_cases q : atI tp r2 1 = true
    · rw [if_pos q] at he2 hg2
      by_cases q2 : (rPer tp len r2 s2).1 = true
      · rw [if_pos q2] at he2 hg2
        have g := perG_ok hd (by omega) q2
        refine j_aload_n dX6_reads_53 rfl rfl ?_
        refine j_getf dX6_reads_54 6 15 rfl (Nat.le_of_ble_eq_true rfl) fl_X6_90 in_6 mH_o rfl ?_
        refine j_iconst (nI 5) dX6_reads_57 rfl ?_
        refine j_icmp_neN 70 dX6_reads_58 (by decide) (by omega) (by omega) (fun b58 => by exact absurd (t5.mpr q) b58) (fun b58 => ?_)
        refine j_aload_n dX6_reads_61 rfl rfl ?_
        refine j_callV (m_person (s := s2) q enc_n (by omega) hb h8 hl hr2) dX6_reads_62 rfl mv_X6_132 mH_o rfl ⟨(Nat.le_of_ble_eq_true rfl), (Nat.le_of_ble_eq_true rfl)⟩ ⟨(Nat.le_of_ble_eq_true rfl), (Nat.le_of_ble_eq_true rfl)⟩ (Nat.le_of_ble_eq_true rfl) ?_
        refine j_top (nI 1) (by rw [q2]; rfl) ?_
        refine j_if_ne 53 dX6_reads_65 (by decide) (fun _ => ?_) (fun h => absurd h (by decide))
        rw [g.1]
        exact ih _ _ (by rw [ok.2.2 q2]; omega) g.2 ok.1 ok.2.1 he2 hg2
      · have hf : (rPer tp len r2 s2).1 = false := by cases w : (rPer tp len r2 s2).1 with | true => exact absurd w q2 | false => rfl
        rw [if_neg q2] at he2 hg2
        have hP : rPpl tp len r s = (false, (rPer tp len r2 s2).2.1, (rPer tp len r2 s2).2.2) := by unfold rPpl; rw [if_pos hat, he2, if_neg f_ne_t]
        have hO : pOut tp len r s = (false, (rPer tp len r2 s2).2.1) := by unfold pOut; rw [hP, if_neg f_ne_t]
        have hA : pArr tp len r s = perG tp len r2 (sN s2) (encT s2) := by unfold pArr; rw [hP, if_neg f_ne_t, hg2]
        rw [hO, hA]
        refine j_aload_n dX6_reads_53 rfl rfl ?_
        refine j_getf dX6_reads_54 6 15 rfl (Nat.le_of_ble_eq_true rfl) fl_X6_90 in_6 mH_o rfl ?_
        refine j_iconst (nI 5) dX6_reads_57 rfl ?_
        refine j_icmp_neN 70 dX6_reads_58 (by decide) (by omega) (by omega) (fun b58 => by exact absurd (t5.mpr q) b58) (fun b58 => ?_)
        refine j_aload_n dX6_reads_61 rfl rfl ?_
        refine j_callV (m_person (s := s2) q enc_n (by omega) hb h8 hl hr2) dX6_reads_62 rfl mv_X6_132 mH_o rfl ⟨(Nat.le_of_ble_eq_true rfl), (Nat.le_of_ble_eq_true rfl)⟩ ⟨(Nat.le_of_ble_eq_true rfl), (Nat.le_of_ble_eq_true rfl)⟩ (Nat.le_of_ble_eq_true rfl) ?_
        refine j_top (nI 0) (by rw [hf]; rfl) ?_
        refine j_if_ne 53 dX6_reads_65 (by decide) (fun h => absurd rfl h) (fun _ => ?_)
        refine j_iconst (nI 0) dX6_reads_68 rfl ?_
        exact j_zret .boolean rfl rfl dX6_reads_69 rfl rfl (Nat.le_of_ble_eq_true rfl) (Nat.le_of_ble_eq_true rfl)
    · rw [if_neg q] at he2 hg2
      refine j_aload_n dX6_reads_53 rfl rfl ?_
      refine j_getf dX6_reads_54 6 15 rfl (Nat.le_of_ble_eq_true rfl) fl_X6_90 in_6 mH_o rfl ?_
      refine j_iconst (nI 5) dX6_reads_57 rfl ?_
      refine j_icmp_neN 70 dX6_reads_58 (by decide) (by omega) (by omega) (fun b58 => ?_) (fun b58 => by exact absurd (t5.mp b58) q)
      exact hend r2 s2 hd hr2 hs2 he2 q
theorem m_reads (hb : bOK tp) (h8 : ∀ j, a8 j = ubI (tp j)) (hl : len ≤ 400) : Ct G yX6_reads cX6_reads 2 (some .boolean) 6 0 0 z (mH σ a0 a1 a2 a3 a4 a5 a6 a7 a8 a9 a10 a11 i0 i1 i2 (nI len) i4 i5 i6 r.2.2.2.1 r.2.2.2.2.2 r.2.2.2.2.1 i10 i11) [.ref 171] (some (.int (b2I (tOut tp len r s).1))) z (mH σ a0 (townG tp len r s) a2 a3 a4 a5 a6 a7 a8 a9 a10 a11 i0 i1 i2 (nI len) (nI ((tOut tp len r s).2).2.2.1) (nI ((tOut tp len r s).2).2.1) (nI (tokR tp ((tOut tp len r s).2))) (((tOut tp len r s).2).2.2.2.1) (((tOut tp len r s).2).2.2.2.2.2) (((tOut tp len r s).2).2.2.2.2.1) i10 i11) := by
  refine Ct.ofJ RX6 rfl [some (.ref 171), none] rfl (by decide) (by simp [Value.category]) ?_
  have hr0 : rOK len (nextT tp len (r.1, r.2.1, 0, r.2.2.2.1, r.2.2.2.2.1, r.2.2.2.2.2)) := tk_ok (Nat.zero_le len)
  have hs0 : sOK (nextT tp len (r.1, r.2.1, 0, r.2.2.2.1, r.2.2.2.2.1, r.2.2.2.2.2)) := tk_s
  have oL := rLaw_ok (tp := tp) (s := (sC s, sI s, sP s, fun _ => nI 0, 0, 1, 0, 0, nI 0, nI 0)) hr0 hs0
  have hgo : J G RX6 cX6_reads 2 (some .boolean) (TQ G 6 0 0 (some (.int (b2I (tOut tp len r s).1))) z (mH σ a0 (townG tp len r s) a2 a3 a4 a5 a6 a7 a8 a9 a10 a11 i0 i1 i2 (nI len) (nI ((tOut tp len r s).2).2.2.1) (nI ((tOut tp len r s).2).2.1) (nI (tokR tp ((tOut tp len r s).2))) (((tOut tp len r s).2).2.2.2.1) (((tOut tp len r s).2).2.2.2.2.2) (((tOut tp len r s).2).2.2.2.2.1) i10 i11)) z (mH σ a0 ((fun _ => nI 0)) a2 a3 a4 a5 a6 a7 a8 a9 a10 a11 i0 i1 i2 (nI len) (nI 0) i5 i6 r.2.2.2.1 r.2.2.2.2.2 r.2.2.2.2.1 i10 i11) 0 0 26 [some (.ref 171), some (.int (nI 96))] [] := by
    have t5 := tok_w1 (tp := tp) (r := (rLaw tp len (nextT tp len (r.1, r.2.1, 0, r.2.2.2.1, r.2.2.2.2.1, r.2.2.2.2.2)) (sC s, sI s, sP s, fun _ => nI 0, 0, 1, 0, 0, nI 0, nI 0)).2.1)
    have h8t := tok_le (tp := tp) (r := (rLaw tp len (nextT tp len (r.1, r.2.1, 0, r.2.2.2.1, r.2.2.2.2.1, r.2.2.2.2.2)) (sC s, sI s, sP s, fun _ => nI 0, 0, 1, 0, 0, nI 0, nI 0)).2.1)
    by_cases q1 : (rLaw tp len (nextT tp len (r.1, r.2.1, 0, r.2.2.2.1, r.2.2.2.2.1, r.2.2.2.2.2)) (sC s, sI s, sP s, fun _ => nI 0, 0, 1, 0, 0, nI 0, nI 0)).1 = true
    · have hT : tOut tp len r s = pOut tp len (rLaw tp len (nextT tp len (r.1, r.2.1, 0, r.2.2.2.1, r.2.2.2.2.1, r.2.2.2.2.2)) (sC s, sI s, sP s, fun _ => nI 0, 0, 1, 0, 0, nI 0, nI 0)).2.1 (rLaw tp len (nextT tp len (r.1, r.2.1, 0, r.2.2.2.1, r.2.2.2.2.1, r.2.2.2.2.2)) (sC s, sI s, sP s, fun _ => nI 0, 0, 1, 0, 0, nI 0, nI 0)).2.2 := by unfold tOut; rw [if_pos q1]
      have hA : townG tp len r s = pArr tp len (rLaw tp len (nextT tp len (r.1, r.2.1, 0, r.2.2.2.1, r.2.2.2.2.1, r.2.2.2.2.2)) (sC s, sI s, sP s, fun _ => nI 0, 0, 1, 0, 0, nI 0, nI 0)).2.1 (rLaw tp len (nextT tp len (r.1, r.2.1, 0, r.2.2.2.1, r.2.2.2.2.1, r.2.2.2.2.2)) (sC s, sI s, sP s, fun _ => nI 0, 0, 1, 0, 0, nI 0, nI 0)).2.2 := by unfold townG; rw [if_pos q1]
      obtain ⟨g1, g2, g3, g4⟩ := lawG_ok q1
      rw [hT, hA]
      by_cases q2 : atI tp (rLaw tp len (nextT tp len (r.1, r.2.1, 0, r.2.2.2.1, r.2.2.2.2.1, r.2.2.2.2.2)) (sC s, sI s, sP s, fun _ => nI 0, 0, 1, 0, 0, nI 0, nI 0)).2.1 1 = true
      · refine j_aload_n dX6_reads_26 rfl rfl ?_
        refine j_callV (m_scans0 hb h8 hl) dX6_reads_27 rfl mv_X6_119 mH_o rfl ⟨(Nat.le_of_ble_eq_true rfl), (Nat.le_of_ble_eq_true rfl)⟩ ⟨(Nat.le_of_ble_eq_true rfl), (Nat.le_of_ble_eq_true rfl)⟩ (Nat.le_of_ble_eq_true rfl) ?_
        refine j_aload_n dX6_reads_30 rfl rfl ?_
        refine j_callV (m_law (s := (sC s, sI s, sP s, fun _ => nI 0, 0, 1, 0, 0, nI 0, nI 0)) hb h8 hl hr0) dX6_reads_31 rfl mv_X6_129 mH_o rfl ⟨(Nat.le_of_ble_eq_true rfl), (Nat.le_of_ble_eq_true rfl)⟩ ⟨(Nat.le_of_ble_eq_true rfl), (Nat.le_of_ble_eq_true rfl)⟩ (Nat.le_of_ble_eq_true rfl) ?_
        refine j_top (nI 1) (by rw [q1]; rfl) ?_
        refine j_if_ne 39 dX6_reads_34 (by decide) (fun _ => ?_) (fun h => absurd h (by decide))
        refine j_aload_n dX6_reads_39 rfl rfl ?_
        refine j_getf dX6_reads_40 6 15 rfl (Nat.le_of_ble_eq_true rfl) fl_X6_90 in_6 mH_o rfl ?_
        refine j_iconst (nI 5) dX6_reads_43 rfl ?_
        refine j_icmp_eqN 53 dX6_reads_44 (by decide) (by omega) (by omega) (fun b44 => ?_) (fun b44 => by exact absurd (t5.mpr q2) b44)
        rw [g1]
        exact mr_people hb h8 hl q2 oL.1 oL.2.1 g3 g2
      · have hP : rPpl tp len (rLaw tp len (nextT tp len (r.1, r.2.1, 0, r.2.2.2.1, r.2.2.2.2.1, r.2.2.2.2.2)) (sC s, sI s, sP s, fun _ => nI 0, 0, 1, 0, 0, nI 0, nI 0)).2.1 (rLaw tp len (nextT tp len (r.1, r.2.1, 0, r.2.2.2.1, r.2.2.2.2.1, r.2.2.2.2.2)) (sC s, sI s, sP s, fun _ => nI 0, 0, 1, 0, 0, nI 0, nI 0)).2.2 = (false, hsF 1 (rLaw tp len (nextT tp len (r.1, r.2.1, 0, r.2.2.2.1, r.2.2.2.2.1, r.2.2.2.2.2)) (sC s, sI s, sP s, fun _ => nI 0, 0, 1, 0, 0, nI 0, nI 0)).2.1, (rLaw tp len (nextT tp len (r.1, r.2.1, 0, r.2.2.2.1, r.2.2.2.2.1, r.2.2.2.2.2)) (sC s, sI s, sP s, fun _ => nI 0, 0, 1, 0, 0, nI 0, nI 0)).2.2) := by unfold rPpl; rw [if_neg q2]
        have hO : pOut tp len (rLaw tp len (nextT tp len (r.1, r.2.1, 0, r.2.2.2.1, r.2.2.2.2.1, r.2.2.2.2.2)) (sC s, sI s, sP s, fun _ => nI 0, 0, 1, 0, 0, nI 0, nI 0)).2.1 (rLaw tp len (nextT tp len (r.1, r.2.1, 0, r.2.2.2.1, r.2.2.2.2.1, r.2.2.2.2.2)) (sC s, sI s, sP s, fun _ => nI 0, 0, 1, 0, 0, nI 0, nI 0)).2.2 = (false, hsF 1 (rLaw tp len (nextT tp len (r.1, r.2.1, 0, r.2.2.2.1, r.2.2.2.2.1, r.2.2.2.2.2)) (sC s, sI s, sP s, fun _ => nI 0, 0, 1, 0, 0, nI 0, nI 0)).2.1) := by unfold pOut; rw [hP, if_neg f_ne_t]
        have hA2 : pArr tp len (rLaw tp len (nextT tp len (r.1, r.2.1, 0, r.2.2.2.1, r.2.2.2.2.1, r.2.2.2.2.2)) (sC s, sI s, sP s, fun _ => nI 0, 0, 1, 0, 0, nI 0, nI 0)).2.1 (rLaw tp len (nextT tp len (r.1, r.2.1, 0, r.2.2.2.1, r.2.2.2.2.1, r.2.2.2.2.2)) (sC s, sI s, sP s, fun _ => nI 0, 0, 1, 0, 0, nI 0, nI 0)).2.2 = lawG tp len (nextT tp len (r.1, r.2.1, 0, r.2.2.2.1, r.2.2.2.2.1, r.2.2.2.2.2)) (fun _ => nI 0) := by
          unfold pArr
          rw [hP, if_neg f_ne_t, g1]
          unfold pplG
          rw [if_neg q2]
        rw [hO, hA2]
        refine j_aload_n dX6_reads_26 rfl rfl ?_
        refine j_callV (m_scans0 hb h8 hl) dX6_reads_27 rfl mv_X6_119 mH_o rfl ⟨(Nat.le_of_ble_eq_true rfl), (Nat.le_of_ble_eq_true rfl)⟩ ⟨(Nat.le_of_ble_eq_true rfl), (Nat.le_of_ble_eq_true rfl)⟩ (Nat.le_of_ble_eq_true rfl) ?_
        refine j_aload_n dX6_reads_30 rfl rfl ?_
        refine j_callV (m_law (s := (sC s, sI s, sP s, fun _ => nI 0, 0, 1, 0, 0, nI 0, nI 0)) hb h8 hl hr0) dX6_reads_31 rfl mv_X6_129 mH_o rfl ⟨(Nat.le_of_ble_eq_true rfl), (Nat.le_of_ble_eq_true rfl)⟩ ⟨(Nat.le_of_ble_eq_true rfl), (Nat.le_of_ble_eq_true rfl)⟩ (Nat.le_of_ble_eq_true rfl) ?_
        refine j_top (nI 1) (by rw [q1]; rfl) ?_
        refine j_if_ne 39 dX6_reads_34 (by decide) (fun _ => ?_) (fun h => absurd h (by decide))
        refine j_aload_n dX6_reads_39 rfl rfl ?_
        refine j_getf dX6_reads_40 6 15 rfl (Nat.le_of_ble_eq_true rfl) fl_X6_90 in_6 mH_o rfl ?_
        refine j_iconst (nI 5) dX6_reads_43 rfl ?_
        refine j_icmp_eqN 53 dX6_reads_44 (by decide) (by omega) (by omega) (fun b44 => by exact absurd (t5.mp b44) q2) (fun b44 => ?_)
        refine j_aload_n dX6_reads_47 rfl rfl ?_
        refine j_iconst (nI 1) dX6_reads_48 rfl ?_
        refine j_callV (m_faults 1) dX6_reads_49 rfl mv_X6_113 mH_o rfl ⟨(Nat.le_of_ble_eq_true rfl), (Nat.le_of_ble_eq_true rfl)⟩ ⟨(Nat.le_of_ble_eq_true rfl), (Nat.le_of_ble_eq_true rfl)⟩ (Nat.le_of_ble_eq_true rfl) ?_
        exact j_zret .boolean rfl rfl dX6_reads_52 rfl rfl (Nat.le_of_ble_eq_true rfl) (Nat.le_of_ble_eq_true rfl)
    · have hf : (rLaw tp len (nextT tp len (r.1, r.2.1, 0, r.2.2.2.1, r.2.2.2.2.1, r.2.2.2.2.2)) (sC s, sI s, sP s, fun _ => nI 0, 0, 1, 0, 0, nI 0, nI 0)).1 = false := by cases w : (rLaw tp len (nextT tp len (r.1, r.2.1, 0, r.2.2.2.1, r.2.2.2.2.1, r.2.2.2.2.2)) (sC s, sI s, sP s, fun _ => nI 0, 0, 1, 0, 0, nI 0, nI 0)).1 with | true => exact absurd w q1 | false => rfl
      have hT : tOut tp len r s = (false, (rLaw tp len (nextT tp len (r.1, r.2.1, 0, r.2.2.2.1, r.2.2.2.2.1, r.2.2.2.2.2)) (sC s, sI s, sP s, fun _ => nI 0, 0, 1, 0, 0, nI 0, nI 0)).2.1) := by unfold tOut; rw [if_neg q1]
      have hA : townG tp len r s = lawG tp len (nextT tp len (r.1, r.2.1, 0, r.2.2.2.1, r.2.2.2.2.1, r.2.2.2.2.2)) (fun _ => nI 0) := by unfold townG; rw [if_neg q1]
      rw [hT, hA]
      refine j_aload_n dX6_reads_26 rfl rfl ?_
      refine j_callV (m_scans0 hb h8 hl) dX6_reads_27 rfl mv_X6_119 mH_o rfl ⟨(Nat.le_of_ble_eq_true rfl), (Nat.le_of_ble_eq_true rfl)⟩ ⟨(Nat.le_of_ble_eq_true rfl), (Nat.le_of_ble_eq_true rfl)⟩ (Nat.le_of_ble_eq_true rfl) ?_
      refine j_aload_n dX6_reads_30 rfl rfl ?_
      refine j_callV (m_law (s := (sC s, sI s, sP s, fun _ => nI 0, 0, 1, 0, 0, nI 0, nI 0)) hb h8 hl hr0) dX6_reads_31 rfl mv_X6_129 mH_o rfl ⟨(Nat.le_of_ble_eq_true rfl), (Nat.le_of_ble_eq_true rfl)⟩ ⟨(Nat.le_of_ble_eq_true rfl), (Nat.le_of_ble_eq_true rfl)⟩ (Nat.le_of_ble_eq_true rfl) ?_
      refine j_top (nI 0) (by rw [hf]; rfl) ?_
      refine j_if_ne 39 dX6_reads_34 (by decide) (fun h => absurd rfl h) (fun _ => ?_)
      refine j_iconst (nI 0) dX6_reads_37 rfl ?_
      exact j_zret .boolean rfl rfl dX6_reads_38 rfl rfl (Nat.le_of_ble_eq_true rfl) (Nat.le_of_ble_eq_true rfl)
  refine j_aload_n dX6_reads_0 rfl rfl ?_
  refine j_iconst (nI 0) dX6_reads_1 rfl ?_
  refine j_putf dX6_reads_2 6 13 rfl (Nat.le_of_ble_eq_true rfl) fl_X6_80 in_6 tyX6 tyX6_ok nmX6 rfl rfl mH_o (Nat.le_of_ble_eq_true rfl) _ mH_p4 ?_
  refine j_iconst (nI 0) dX6_reads_5 rfl ?_
  refine j_istore_n dX6_reads_6 rfl (Nat.le_of_ble_eq_true rfl) rfl ?_
  suffices H : ∀ (kk i : Nat), i ≤ 96 → 96 < i + kk → J G RX6 cX6_reads 2 (some .boolean) (TQ G 6 0 0 (some (.int (b2I (tOut tp len r s).1))) z (mH σ a0 (townG tp len r s) a2 a3 a4 a5 a6 a7 a8 a9 a10 a11 i0 i1 i2 (nI len) (nI ((tOut tp len r s).2).2.2.1) (nI ((tOut tp len r s).2).2.1) (nI (tokR tp ((tOut tp len r s).2))) (((tOut tp len r s).2).2.2.2.1) (((tOut tp len r s).2).2.2.2.2.2) (((tOut tp len r s).2).2.2.2.2.1) i10 i11)) z (mH σ a0 (fil (nI 0) a1 i) a2 a3 a4 a5 a6 a7 a8 a9 a10 a11 i0 i1 i2 (nI len) (nI 0) i5 i6 r.2.2.2.1 r.2.2.2.2.2 r.2.2.2.2.1 i10 i11) 0 0 7 [some (.ref 171), some (.int (nI i))] [] from H 97 0 (by omega) (by omega)
  intro kk
  induction kk with
  | zero => intro i h1 h2; exact absurd h2 (by omega)
  | succ kk ih =>
    intro i h1 h2
    by_cases hi : i < 96
    · refine j_iload_n dX6_reads_7 rfl rfl ?_
      refine j_bipush (nI 96) dX6_reads_8 rfl ?_
      refine j_icmp_geN 26 dX6_reads_10 (by decide) (by omega) (by omega) (fun b10 => by exfalso; omega) (fun b10 => ?_)
      refine j_aload_n dX6_reads_13 rfl rfl ?_
      refine j_getf dX6_reads_14 6 1 rfl (Nat.le_of_ble_eq_true rfl) fl_X6_13 in_6 mH_o rfl ?_
      refine j_iload_n dX6_reads_17 rfl rfl ?_
      refine j_iconst (nI 0) dX6_reads_18 rfl ?_
      refine j_iast dX6_reads_19 mH_a1 rfl (by omega) (by decide) _ (show _ = (mH σ a0 (fil (nI 0) a1 (i + 1)) a2 a3 a4 a5 a6 a7 a8 a9 a10 a11 i0 i1 i2 (nI len) (nI 0) i5 i6 r.2.2.2.1 r.2.2.2.2.2 r.2.2.2.2.1 i10 i11) from mH_s1) ?_
      first | refine j_iincN dX6_reads_20 rfl (Nat.le_of_ble_eq_true rfl) rfl ?_ | refine j_iinc _ dX6_reads_20 rfl rfl (Nat.le_of_ble_eq_true rfl) rfl ?_
      refine j_goto 7 dX6_reads_23 (by decide) ?_
      exact ih (i + 1) (by omega) (by omega)
    · obtain rfl : i = 96 := by omega
      refine j_arr (fun _ => nI 0) mH_a1 (fun j hj => by rw [fil_at, if_pos hj]) _ mH_s1 ?_
      refine j_iload_n dX6_reads_7 rfl rfl ?_
      refine j_bipush (nI 96) dX6_reads_8 rfl ?_
      refine j_icmp_geN 26 dX6_reads_10 (by decide) (by omega) (by omega) (fun b10 => ?_) (fun b10 => by exfalso; omega)
      exact hgo
theorem m_town_bad (hb : bOK tp) (h8 : ∀ j, a8 j = ubI (tp j)) (hl : len ≤ 400) (h : (rTown tp len r s).1 = false) : Ct G yX6_town cX6_town 3 (some .int) 10 0 0 z (mH σ a0 a1 a2 a3 a4 a5 a6 a7 a8 a9 a10 a11 i0 i1 i2 (nI len) i4 i5 i6 r.2.2.2.1 r.2.2.2.2.2 r.2.2.2.2.1 i10 i11) [.ref 171] (some (.int (-1000100 - nI (rTown tp len r s).2.1.2.1))) z (mH σ a0 (townG tp len r s) a2 a3 a4 a5 a6 a7 a8 a9 a10 a11 i0 i1 ((rTown tp len r s).2.1.2.2.2.2.2) (nI 0) (nI (rTown tp len r s).2.1.2.2.1) (nI (rTown tp len r s).2.1.2.1) (nI (tokR tp (rTown tp len r s).2.1)) ((rTown tp len r s).2.1.2.2.2.1) ((rTown tp len r s).2.1.2.2.2.2.2) ((rTown tp len r s).2.1.2.2.2.2.1) i10 i11) := by
  refine Ct.ofJ RX6 rfl [some (.ref 171), none, none] rfl (by decide) (by simp [Value.category]) ?_
  obtain ⟨o1, o2⟩ := rTown_o tp len r s
  rw [h] at o1
  rw [o2]
  refine j_aload_n dX6_town_0 rfl rfl ?_
  refine j_callV (m_reads (s := s) hb h8 hl) dX6_town_1 rfl mv_X6_138 mH_o rfl ⟨(Nat.le_of_ble_eq_true rfl), (Nat.le_of_ble_eq_true rfl)⟩ ⟨(Nat.le_of_ble_eq_true rfl), (Nat.le_of_ble_eq_true rfl)⟩ (Nat.le_of_ble_eq_true rfl) ?_
  refine j_top (nI 0) (by rw [← o1]; rfl) ?_
  refine j_istore_n dX6_town_4 rfl (Nat.le_of_ble_eq_true rfl) rfl ?_
  refine j_aload_n dX6_town_5 rfl rfl ?_
  refine j_iconst (nI 0) dX6_town_6 rfl ?_
  refine j_putf dX6_town_7 6 12 rfl (Nat.le_of_ble_eq_true rfl) fl_X6_74 in_6 tyX6 tyX6_ok nmX6 rfl rfl mH_o (Nat.le_of_ble_eq_true rfl) _ mH_p3 ?_
  refine j_iload_n dX6_town_10 rfl rfl ?_
  refine j_top (nI 0) rfl ?_
  refine j_if_ne 30 dX6_town_11 (by decide) (fun h => absurd rfl h) (fun _ => ?_)
  refine j_aload_n dX6_town_14 rfl rfl ?_
  refine j_aload_n dX6_town_15 rfl rfl ?_
  refine j_getf dX6_town_16 6 17 rfl (Nat.le_of_ble_eq_true rfl) fl_X6_110 in_6 mH_o rfl ?_
  refine j_putf dX6_town_19 6 7 rfl (Nat.le_of_ble_eq_true rfl) fl_X6_141 in_6 tyX6 tyX6_ok nmX6 rfl rfl mH_o (Nat.le_of_ble_eq_true rfl) _ mH_p2 ?_
  refine j_ldc (-1000100) dX6_town_22 kc_X6_144 ?_
  refine j_aload_n dX6_town_24 rfl rfl ?_
  refine j_getf dX6_town_25 6 14 rfl (Nat.le_of_ble_eq_true rfl) fl_X6_87 in_6 mH_o rfl ?_
  refine j_isub dX6_town_28 ?_
  exact j_iret rfl dX6_town_29 rfl rfl (Nat.le_of_ble_eq_true rfl) (Nat.le_of_ble_eq_true rfl)
theorem m_town_ok (hb : bOK tp) (h8 : ∀ j, a8 j = ubI (tp j)) (hl : len ≤ 400) (h : (rTown tp len r s).1 = true) (T : Nat → Int32) (hT : townG tp len r s = T) {n : Nat} (hn : T 2 = nI n) : Ct G yX6_town cX6_town 3 (some .int) 10 0 0 z (mH σ a0 a1 a2 a3 a4 a5 a6 a7 a8 a9 a10 a11 i0 i1 i2 (nI len) i4 i5 i6 r.2.2.2.1 r.2.2.2.2.2 r.2.2.2.2.1 i10 i11) [.ref 171] (some (.int (nI n))) z (mH σ T (townG tp len r s) a2 a3 a4 a5 a6 a7 a8 a9 a10 a11 (nI 0) i1 i2 (nI 0) (nI (rTown tp len r s).2.1.2.2.1) (nI (rTown tp len r s).2.1.2.1) (nI (tokR tp (rTown tp len r s).2.1)) ((rTown tp len r s).2.1.2.2.2.1) ((rTown tp len r s).2.1.2.2.2.2.2) ((rTown tp len r s).2.1.2.2.2.2.1) i10 i11) := by
  refine Ct.ofJ RX6 rfl [some (.ref 171), none, none] rfl (by decide) (by simp [Value.category]) ?_
  obtain ⟨o1, o2⟩ := rTown_o tp len r s
  rw [h] at o1
  rw [o2]
  refine j_aload_n dX6_town_0 rfl rfl ?_
  refine j_callV (m_reads (s := s) hb h8 hl) dX6_town_1 rfl mv_X6_138 mH_o rfl ⟨(Nat.le_of_ble_eq_true rfl), (Nat.le_of_ble_eq_true rfl)⟩ ⟨(Nat.le_of_ble_eq_true rfl), (Nat.le_of_ble_eq_true rfl)⟩ (Nat.le_of_ble_eq_true rfl) ?_
  refine j_top (nI 1) (by rw [← o1]; rfl) ?_
  refine j_istore_n dX6_town_4 rfl (Nat.le_of_ble_eq_true rfl) rfl ?_
  refine j_aload_n dX6_town_5 rfl rfl ?_
  refine j_iconst (nI 0) dX6_town_6 rfl ?_
  refine j_putf dX6_town_7 6 12 rfl (Nat.le_of_ble_eq_true rfl) fl_X6_74 in_6 tyX6 tyX6_ok nmX6 rfl rfl mH_o (Nat.le_of_ble_eq_true rfl) _ mH_p3 ?_
  refine j_iload_n dX6_town_10 rfl rfl ?_
  refine j_top (nI 1) rfl ?_
  refine j_if_ne 30 dX6_town_11 (by decide) (fun _ => ?_) (fun h => absurd h (by decide))
  refine j_iconst (nI 0) dX6_town_30 rfl ?_
  refine j_istore_n dX6_town_31 rfl (Nat.le_of_ble_eq_true rfl) rfl ?_
  suffices H : ∀ (kk i : Nat), i ≤ 96 → 96 < i + kk → J G RX6 cX6_town 3 (some .int) (TQ G 10 0 0 (some (.int (nI n))) z (mH σ T (townG tp len r s) a2 a3 a4 a5 a6 a7 a8 a9 a10 a11 (nI 0) i1 i2 (nI 0) (nI (tOut tp len r s).2.2.2.1) (nI (tOut tp len r s).2.2.1) (nI (tokR tp (tOut tp len r s).2)) ((tOut tp len r s).2.2.2.2.1) ((tOut tp len r s).2.2.2.2.2.2) ((tOut tp len r s).2.2.2.2.2.1) i10 i11)) z (mH σ (va_cpy (townG tp len r s) a0 0 0 i) (townG tp len r s) a2 a3 a4 a5 a6 a7 a8 a9 a10 a11 i0 i1 i2 (nI 0) (nI (tOut tp len r s).2.2.2.1) (nI (tOut tp len r s).2.2.1) (nI (tokR tp (tOut tp len r s).2)) ((tOut tp len r s).2.2.2.2.1) ((tOut tp len r s).2.2.2.2.2.2) ((tOut tp len r s).2.2.2.2.2.1) i10 i11) 0 0 32 [some (.ref 171), some (.int (nI 1)), some (.int (nI i))] [] from (by have := H 97 0 (by omega) (by omega); rw [cpy_0] at this; exact this)
  intro kk
  induction kk with
  | zero => intro i h1 h2; exact absurd h2 (by omega)
  | succ kk ih =>
    intro i h1 h2
    by_cases hi : i < 96
    · refine j_iload_n dX6_town_32 rfl rfl ?_
      refine j_bipush (nI 96) dX6_town_33 rfl ?_
      refine j_icmp_geN 56 dX6_town_35 (by decide) (by omega) (by omega) (fun b35 => by exfalso; omega) (fun b35 => ?_)
      refine j_aload_n dX6_town_38 rfl rfl ?_
      refine j_getf dX6_town_39 6 0 rfl (Nat.le_of_ble_eq_true rfl) fl_X6_7 in_6 mH_o rfl ?_
      refine j_iload_n dX6_town_42 rfl rfl ?_
      refine j_aload_n dX6_town_43 rfl rfl ?_
      refine j_getf dX6_town_44 6 1 rfl (Nat.le_of_ble_eq_true rfl) fl_X6_13 in_6 mH_o rfl ?_
      refine j_iload_n dX6_town_47 rfl rfl ?_
      refine j_iald dX6_town_48 mH_a1 rfl (by omega) (by decide) ?_
      refine j_iast dX6_town_49 mH_a0 rfl (by omega) (by decide) _ (show _ = (mH σ (va_cpy (townG tp len r s) a0 0 0 (i + 1)) (townG tp len r s) a2 a3 a4 a5 a6 a7 a8 a9 a10 a11 i0 i1 i2 (nI 0) (nI (tOut tp len r s).2.2.2.1) (nI (tOut tp len r s).2.2.1) (nI (tokR tp (tOut tp len r s).2)) ((tOut tp len r s).2.2.2.2.1) ((tOut tp len r s).2.2.2.2.2.2) ((tOut tp len r s).2.2.2.2.2.1) i10 i11) by rw [← cpy_s, Nat.zero_add]; exact mH_s0) ?_
      first | refine j_iincN dX6_town_50 rfl (Nat.le_of_ble_eq_true rfl) rfl ?_ | refine j_iinc _ dX6_town_50 rfl rfl (Nat.le_of_ble_eq_true rfl) rfl ?_
      refine j_goto 32 dX6_town_53 (by decide) ?_
      exact ih (i + 1) (by omega) (by omega)
    · obtain rfl : i = 96 := by omega
      refine j_arr T mH_a0 (fun j hj => by rw [pk_cpy_in (by omega) (by omega), Nat.sub_zero, Nat.zero_add, hT]) _ mH_s0 ?_
      refine j_iload_n dX6_town_32 rfl rfl ?_
      refine j_bipush (nI 96) dX6_town_33 rfl ?_
      refine j_icmp_geN 56 dX6_town_35 (by decide) (by omega) (by omega) (fun b35 => ?_) (fun b35 => by exfalso; omega)
      refine j_aload_n dX6_town_56 rfl rfl ?_
      refine j_iconst (nI 0) dX6_town_57 rfl ?_
      refine j_putf dX6_town_58 6 5 rfl (Nat.le_of_ble_eq_true rfl) fl_X6_145 in_6 tyX6 tyX6_ok nmX6 rfl rfl mH_o (Nat.le_of_ble_eq_true rfl) _ mH_p0 ?_
      refine j_aload_n dX6_town_61 rfl rfl ?_
      refine j_getf dX6_town_62 6 0 rfl (Nat.le_of_ble_eq_true rfl) fl_X6_7 in_6 mH_o rfl ?_
      refine j_iconst (nI 2) dX6_town_65 rfl ?_
      refine j_iald dX6_town_66 mH_a0 rfl (by omega) (by decide) ?_
      refine j_top (nI n) hn ?_
      exact j_iret rfl dX6_town_67 rfl rfl (Nat.le_of_ble_eq_true rfl) (Nat.le_of_ble_eq_true rfl)
end MW

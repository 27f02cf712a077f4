/-! THE MODEL's calls: fault, status, loan, pay, paint, hedge, undo, image, restore, trace, kind -/
theorem dX6_fault_0 : decode cX6_fault 0 = .ok (.aload_n 0, 1) := by decide +kernel
theorem dX6_fault_1 : decode cX6_fault 1 = .ok (.getfield 141, 3) := by decide +kernel
theorem dX6_fault_4 : decode cX6_fault 4 = .ok (.ireturn, 1) := by decide +kernel
theorem dX6_status_0 : decode cX6_status 0 = .ok (.aload_n 0, 1) := by decide +kernel
theorem dX6_status_1 : decode cX6_status 1 = .ok (.getfield 47, 3) := by decide +kernel
theorem dX6_status_4 : decode cX6_status 4 = .ok (.ireturn, 1) := by decide +kernel
theorem dX6_loan_0 : decode cX6_loan 0 = .ok (.aload_n 0, 1) := by decide +kernel
theorem dX6_loan_1 : decode cX6_loan 1 = .ok (.iload_n 1, 1) := by decide +kernel
theorem dX6_loan_2 : decode cX6_loan 2 = .ok (.iload_n 2, 1) := by decide +kernel
theorem dX6_loan_3 : decode cX6_loan 3 = .ok (.invokevirtual 158, 3) := by decide +kernel
theorem dX6_loan_6 : decode cX6_loan 6 = .ok (.ifCond .eq 15, 3) := by decide +kernel
theorem dX6_loan_9 : decode cX6_loan 9 = .ok (.iload_n 3, 1) := by decide +kernel
theorem dX6_loan_10 : decode cX6_loan 10 = .ok (.i2l, 1) := by decide +kernel
theorem dX6_loan_11 : decode cX6_loan 11 = .ok (.lconst 1, 1) := by decide +kernel
theorem dX6_loan_12 : decode cX6_loan 12 = .ok (.ldc2_w 161, 3) := by decide +kernel
theorem dX6_loan_15 : decode cX6_loan 15 = .ok (.invokestatic 54, 3) := by decide +kernel
theorem dX6_loan_18 : decode cX6_loan 18 = .ok (.ifCond .ne 6, 3) := by decide +kernel
theorem dX6_loan_21 : decode cX6_loan 21 = .ok (.ldc 64, 2) := by decide +kernel
theorem dX6_loan_23 : decode cX6_loan 23 = .ok (.ireturn, 1) := by decide +kernel
theorem dX6_loan_24 : decode cX6_loan 24 = .ok (.aload_n 0, 1) := by decide +kernel
theorem dX6_loan_25 : decode cX6_loan 25 = .ok (.getfield 7, 3) := by decide +kernel
theorem dX6_loan_28 : decode cX6_loan 28 = .ok (.iconst 4, 1) := by decide +kernel
theorem dX6_loan_29 : decode cX6_loan 29 = .ok (.iload_n 2, 1) := by decide +kernel
theorem dX6_loan_30 : decode cX6_loan 30 = .ok (.iadd, 1) := by decide +kernel
theorem dX6_loan_31 : decode cX6_loan 31 = .ok (.iaload, 1) := by decide +kernel
theorem dX6_loan_32 : decode cX6_loan 32 = .ok (.iload_n 3, 1) := by decide +kernel
theorem dX6_loan_33 : decode cX6_loan 33 = .ok (.if_icmp .ge 6, 3) := by decide +kernel
theorem dX6_loan_36 : decode cX6_loan 36 = .ok (.ldc 163, 2) := by decide +kernel
theorem dX6_loan_38 : decode cX6_loan 38 = .ok (.ireturn, 1) := by decide +kernel
theorem dX6_loan_39 : decode cX6_loan 39 = .ok (.aload_n 0, 1) := by decide +kernel
theorem dX6_loan_40 : decode cX6_loan 40 = .ok (.getfield 7, 3) := by decide +kernel
theorem dX6_loan_43 : decode cX6_loan 43 = .ok (.bipush 40, 2) := by decide +kernel
theorem dX6_loan_45 : decode cX6_loan 45 = .ok (.bipush 7, 2) := by decide +kernel
theorem dX6_loan_47 : decode cX6_loan 47 = .ok (.iload_n 1, 1) := by decide +kernel
theorem dX6_loan_48 : decode cX6_loan 48 = .ok (.imul, 1) := by decide +kernel
theorem dX6_loan_49 : decode cX6_loan 49 = .ok (.iadd, 1) := by decide +kernel
theorem dX6_loan_50 : decode cX6_loan 50 = .ok (.iload_n 2, 1) := by decide +kernel
theorem dX6_loan_51 : decode cX6_loan 51 = .ok (.iadd, 1) := by decide +kernel
theorem dX6_loan_52 : decode cX6_loan 52 = .ok (.iaload, 1) := by decide +kernel
theorem dX6_loan_53 : decode cX6_loan 53 = .ok (.iload_n 3, 1) := by decide +kernel
theorem dX6_loan_54 : decode cX6_loan 54 = .ok (.iadd, 1) := by decide +kernel
theorem dX6_loan_55 : decode cX6_loan 55 = .ok (.ldc 164, 2) := by decide +kernel
theorem dX6_loan_57 : decode cX6_loan 57 = .ok (.if_icmp .le 6, 3) := by decide +kernel
theorem dX6_loan_60 : decode cX6_loan 60 = .ok (.ldc 77, 2) := by decide +kernel
theorem dX6_loan_62 : decode cX6_loan 62 = .ok (.ireturn, 1) := by decide +kernel
theorem dX6_loan_63 : decode cX6_loan 63 = .ok (.aload_n 0, 1) := by decide +kernel
theorem dX6_loan_64 : decode cX6_loan 64 = .ok (.invokevirtual 165, 3) := by decide +kernel
theorem dX6_loan_67 : decode cX6_loan 67 = .ok (.aload_n 0, 1) := by decide +kernel
theorem dX6_loan_68 : decode cX6_loan 68 = .ok (.getfield 7, 3) := by decide +kernel
theorem dX6_loan_71 : decode cX6_loan 71 = .ok (.iconst 4, 1) := by decide +kernel
theorem dX6_loan_72 : decode cX6_loan 72 = .ok (.iload_n 2, 1) := by decide +kernel
theorem dX6_loan_73 : decode cX6_loan 73 = .ok (.iadd, 1) := by decide +kernel
theorem dX6_loan_74 : decode cX6_loan 74 = .ok (.dup2, 1) := by decide +kernel
theorem dX6_loan_75 : decode cX6_loan 75 = .ok (.iaload, 1) := by decide +kernel
theorem dX6_loan_76 : decode cX6_loan 76 = .ok (.iload_n 3, 1) := by decide +kernel
theorem dX6_loan_77 : decode cX6_loan 77 = .ok (.isub, 1) := by decide +kernel
theorem dX6_loan_78 : decode cX6_loan 78 = .ok (.iastore, 1) := by decide +kernel
theorem dX6_loan_79 : decode cX6_loan 79 = .ok (.aload_n 0, 1) := by decide +kernel
theorem dX6_loan_80 : decode cX6_loan 80 = .ok (.getfield 7, 3) := by decide +kernel
theorem dX6_loan_83 : decode cX6_loan 83 = .ok (.iconst 4, 1) := by decide +kernel
theorem dX6_loan_84 : decode cX6_loan 84 = .ok (.iload_n 1, 1) := by decide +kernel
theorem dX6_loan_85 : decode cX6_loan 85 = .ok (.iadd, 1) := by decide +kernel
theorem dX6_loan_86 : decode cX6_loan 86 = .ok (.dup2, 1) := by decide +kernel
theorem dX6_loan_87 : decode cX6_loan 87 = .ok (.iaload, 1) := by decide +kernel
theorem dX6_loan_88 : decode cX6_loan 88 = .ok (.iload_n 3, 1) := by decide +kernel
theorem dX6_loan_89 : decode cX6_loan 89 = .ok (.iadd, 1) := by decide +kernel
theorem dX6_loan_90 : decode cX6_loan 90 = .ok (.iastore, 1) := by decide +kernel
theorem dX6_loan_91 : decode cX6_loan 91 = .ok (.aload_n 0, 1) := by decide +kernel
theorem dX6_loan_92 : decode cX6_loan 92 = .ok (.getfield 7, 3) := by decide +kernel
theorem dX6_loan_95 : decode cX6_loan 95 = .ok (.bipush 40, 2) := by decide +kernel
theorem dX6_loan_97 : decode cX6_loan 97 = .ok (.bipush 7, 2) := by decide +kernel
theorem dX6_loan_99 : decode cX6_loan 99 = .ok (.iload_n 1, 1) := by decide +kernel
theorem dX6_loan_100 : decode cX6_loan 100 = .ok (.imul, 1) := by decide +kernel
theorem dX6_loan_101 : decode cX6_loan 101 = .ok (.iadd, 1) := by decide +kernel
theorem dX6_loan_102 : decode cX6_loan 102 = .ok (.iload_n 2, 1) := by decide +kernel
theorem dX6_loan_103 : decode cX6_loan 103 = .ok (.iadd, 1) := by decide +kernel
theorem dX6_loan_104 : decode cX6_loan 104 = .ok (.dup2, 1) := by decide +kernel
theorem dX6_loan_105 : decode cX6_loan 105 = .ok (.iaload, 1) := by decide +kernel
theorem dX6_loan_106 : decode cX6_loan 106 = .ok (.iload_n 3, 1) := by decide +kernel
theorem dX6_loan_107 : decode cX6_loan 107 = .ok (.iadd, 1) := by decide +kernel
theorem dX6_loan_108 : decode cX6_loan 108 = .ok (.iastore, 1) := by decide +kernel
theorem dX6_loan_109 : decode cX6_loan 109 = .ok (.aload_n 0, 1) := by decide +kernel
theorem dX6_loan_110 : decode cX6_loan 110 = .ok (.getfield 7, 3) := by decide +kernel
theorem dX6_loan_113 : decode cX6_loan 113 = .ok (.bipush 40, 2) := by decide +kernel
theorem dX6_loan_115 : decode cX6_loan 115 = .ok (.bipush 7, 2) := by decide +kernel
theorem dX6_loan_117 : decode cX6_loan 117 = .ok (.iload_n 1, 1) := by decide +kernel
theorem dX6_loan_118 : decode cX6_loan 118 = .ok (.imul, 1) := by decide +kernel
theorem dX6_loan_119 : decode cX6_loan 119 = .ok (.iadd, 1) := by decide +kernel
theorem dX6_loan_120 : decode cX6_loan 120 = .ok (.iload_n 2, 1) := by decide +kernel
theorem dX6_loan_121 : decode cX6_loan 121 = .ok (.iadd, 1) := by decide +kernel
theorem dX6_loan_122 : decode cX6_loan 122 = .ok (.iaload, 1) := by decide +kernel
theorem dX6_loan_123 : decode cX6_loan 123 = .ok (.ireturn, 1) := by decide +kernel
theorem dX6_pay_0 : decode cX6_pay 0 = .ok (.aload_n 0, 1) := by decide +kernel
theorem dX6_pay_1 : decode cX6_pay 1 = .ok (.iload_n 1, 1) := by decide +kernel
theorem dX6_pay_2 : decode cX6_pay 2 = .ok (.iload_n 2, 1) := by decide +kernel
theorem dX6_pay_3 : decode cX6_pay 3 = .ok (.invokevirtual 158, 3) := by decide +kernel
theorem dX6_pay_6 : decode cX6_pay 6 = .ok (.ifCond .eq 15, 3) := by decide +kernel
theorem dX6_pay_9 : decode cX6_pay 9 = .ok (.iload_n 3, 1) := by decide +kernel
theorem dX6_pay_10 : decode cX6_pay 10 = .ok (.i2l, 1) := by decide +kernel
theorem dX6_pay_11 : decode cX6_pay 11 = .ok (.lconst 1, 1) := by decide +kernel
theorem dX6_pay_12 : decode cX6_pay 12 = .ok (.ldc2_w 168, 3) := by decide +kernel
theorem dX6_pay_15 : decode cX6_pay 15 = .ok (.invokestatic 54, 3) := by decide +kernel
theorem dX6_pay_18 : decode cX6_pay 18 = .ok (.ifCond .ne 6, 3) := by decide +kernel
theorem dX6_pay_21 : decode cX6_pay 21 = .ok (.ldc 64, 2) := by decide +kernel
theorem dX6_pay_23 : decode cX6_pay 23 = .ok (.ireturn, 1) := by decide +kernel
theorem dX6_pay_24 : decode cX6_pay 24 = .ok (.aload_n 0, 1) := by decide +kernel
theorem dX6_pay_25 : decode cX6_pay 25 = .ok (.getfield 7, 3) := by decide +kernel
theorem dX6_pay_28 : decode cX6_pay 28 = .ok (.bipush 40, 2) := by decide +kernel
theorem dX6_pay_30 : decode cX6_pay 30 = .ok (.bipush 7, 2) := by decide +kernel
theorem dX6_pay_32 : decode cX6_pay 32 = .ok (.iload_n 1, 1) := by decide +kernel
theorem dX6_pay_33 : decode cX6_pay 33 = .ok (.imul, 1) := by decide +kernel
theorem dX6_pay_34 : decode cX6_pay 34 = .ok (.iadd, 1) := by decide +kernel
theorem dX6_pay_35 : decode cX6_pay 35 = .ok (.iload_n 2, 1) := by decide +kernel
theorem dX6_pay_36 : decode cX6_pay 36 = .ok (.iadd, 1) := by decide +kernel
theorem dX6_pay_37 : decode cX6_pay 37 = .ok (.iaload, 1) := by decide +kernel
theorem dX6_pay_38 : decode cX6_pay 38 = .ok (.iload_n 3, 1) := by decide +kernel
theorem dX6_pay_39 : decode cX6_pay 39 = .ok (.if_icmp .lt 15, 3) := by decide +kernel
theorem dX6_pay_42 : decode cX6_pay 42 = .ok (.aload_n 0, 1) := by decide +kernel
theorem dX6_pay_43 : decode cX6_pay 43 = .ok (.getfield 7, 3) := by decide +kernel
theorem dX6_pay_46 : decode cX6_pay 46 = .ok (.iconst 4, 1) := by decide +kernel
theorem dX6_pay_47 : decode cX6_pay 47 = .ok (.iload_n 1, 1) := by decide +kernel
theorem dX6_pay_48 : decode cX6_pay 48 = .ok (.iadd, 1) := by decide +kernel
theorem dX6_pay_49 : decode cX6_pay 49 = .ok (.iaload, 1) := by decide +kernel
theorem dX6_pay_50 : decode cX6_pay 50 = .ok (.iload_n 3, 1) := by decide +kernel
theorem dX6_pay_51 : decode cX6_pay 51 = .ok (.if_icmp .ge 6, 3) := by decide +kernel
theorem dX6_pay_54 : decode cX6_pay 54 = .ok (.ldc 163, 2) := by decide +kernel
theorem dX6_pay_56 : decode cX6_pay 56 = .ok (.ireturn, 1) := by decide +kernel
theorem dX6_pay_57 : decode cX6_pay 57 = .ok (.aload_n 0, 1) := by decide +kernel
theorem dX6_pay_58 : decode cX6_pay 58 = .ok (.invokevirtual 165, 3) := by decide +kernel
theorem dX6_pay_61 : decode cX6_pay 61 = .ok (.aload_n 0, 1) := by decide +kernel
theorem dX6_pay_62 : decode cX6_pay 62 = .ok (.getfield 7, 3) := by decide +kernel
theorem dX6_pay_65 : decode cX6_pay 65 = .ok (.iconst 4, 1) := by decide +kernel
theorem dX6_pay_66 : decode cX6_pay 66 = .ok (.iload_n 1, 1) := by decide +kernel
theorem dX6_pay_67 : decode cX6_pay 67 = .ok (.iadd, 1) := by decide +kernel
theorem dX6_pay_68 : decode cX6_pay 68 = .ok (.dup2, 1) := by decide +kernel
theorem dX6_pay_69 : decode cX6_pay 69 = .ok (.iaload, 1) := by decide +kernel
theorem dX6_pay_70 : decode cX6_pay 70 = .ok (.iload_n 3, 1) := by decide +kernel
theorem dX6_pay_71 : decode cX6_pay 71 = .ok (.isub, 1) := by decide +kernel
theorem dX6_pay_72 : decode cX6_pay 72 = .ok (.iastore, 1) := by decide +kernel
theorem dX6_pay_73 : decode cX6_pay 73 = .ok (.aload_n 0, 1) := by decide +kernel
theorem dX6_pay_74 : decode cX6_pay 74 = .ok (.getfield 7, 3) := by decide +kernel
theorem dX6_pay_77 : decode cX6_pay 77 = .ok (.iconst 4, 1) := by decide +kernel
theorem dX6_pay_78 : decode cX6_pay 78 = .ok (.iload_n 2, 1) := by decide +kernel
theorem dX6_pay_79 : decode cX6_pay 79 = .ok (.iadd, 1) := by decide +kernel
theorem dX6_pay_80 : decode cX6_pay 80 = .ok (.dup2, 1) := by decide +kernel
theorem dX6_pay_81 : decode cX6_pay 81 = .ok (.iaload, 1) := by decide +kernel
theorem dX6_pay_82 : decode cX6_pay 82 = .ok (.iload_n 3, 1) := by decide +kernel
theorem dX6_pay_83 : decode cX6_pay 83 = .ok (.iadd, 1) := by decide +kernel
theorem dX6_pay_84 : decode cX6_pay 84 = .ok (.iastore, 1) := by decide +kernel
theorem dX6_pay_85 : decode cX6_pay 85 = .ok (.aload_n 0, 1) := by decide +kernel
theorem dX6_pay_86 : decode cX6_pay 86 = .ok (.getfield 7, 3) := by decide +kernel
theorem dX6_pay_89 : decode cX6_pay 89 = .ok (.bipush 40, 2) := by decide +kernel
theorem dX6_pay_91 : decode cX6_pay 91 = .ok (.bipush 7, 2) := by decide +kernel
theorem dX6_pay_93 : decode cX6_pay 93 = .ok (.iload_n 1, 1) := by decide +kernel
theorem dX6_pay_94 : decode cX6_pay 94 = .ok (.imul, 1) := by decide +kernel
theorem dX6_pay_95 : decode cX6_pay 95 = .ok (.iadd, 1) := by decide +kernel
theorem dX6_pay_96 : decode cX6_pay 96 = .ok (.iload_n 2, 1) := by decide +kernel
theorem dX6_pay_97 : decode cX6_pay 97 = .ok (.iadd, 1) := by decide +kernel
theorem dX6_pay_98 : decode cX6_pay 98 = .ok (.dup2, 1) := by decide +kernel
theorem dX6_pay_99 : decode cX6_pay 99 = .ok (.iaload, 1) := by decide +kernel
theorem dX6_pay_100 : decode cX6_pay 100 = .ok (.iload_n 3, 1) := by decide +kernel
theorem dX6_pay_101 : decode cX6_pay 101 = .ok (.isub, 1) := by decide +kernel
theorem dX6_pay_102 : decode cX6_pay 102 = .ok (.iastore, 1) := by decide +kernel
theorem dX6_pay_103 : decode cX6_pay 103 = .ok (.aload_n 0, 1) := by decide +kernel
theorem dX6_pay_104 : decode cX6_pay 104 = .ok (.getfield 7, 3) := by decide +kernel
theorem dX6_pay_107 : decode cX6_pay 107 = .ok (.bipush 40, 2) := by decide +kernel
theorem dX6_pay_109 : decode cX6_pay 109 = .ok (.bipush 7, 2) := by decide +kernel
theorem dX6_pay_111 : decode cX6_pay 111 = .ok (.iload_n 1, 1) := by decide +kernel
theorem dX6_pay_112 : decode cX6_pay 112 = .ok (.imul, 1) := by decide +kernel
theorem dX6_pay_113 : decode cX6_pay 113 = .ok (.iadd, 1) := by decide +kernel
theorem dX6_pay_114 : decode cX6_pay 114 = .ok (.iload_n 2, 1) := by decide +kernel
theorem dX6_pay_115 : decode cX6_pay 115 = .ok (.iadd, 1) := by decide +kernel
theorem dX6_pay_116 : decode cX6_pay 116 = .ok (.iaload, 1) := by decide +kernel
theorem dX6_pay_117 : decode cX6_pay 117 = .ok (.ireturn, 1) := by decide +kernel
theorem dX6_paint_0 : decode cX6_paint 0 = .ok (.aload_n 0, 1) := by decide +kernel
theorem dX6_paint_1 : decode cX6_paint 1 = .ok (.iload_n 1, 1) := by decide +kernel
theorem dX6_paint_2 : decode cX6_paint 2 = .ok (.invokevirtual 148, 3) := by decide +kernel
theorem dX6_paint_5 : decode cX6_paint 5 = .ok (.ifCond .eq 15, 3) := by decide +kernel
theorem dX6_paint_8 : decode cX6_paint 8 = .ok (.iload_n 2, 1) := by decide +kernel
theorem dX6_paint_9 : decode cX6_paint 9 = .ok (.i2l, 1) := by decide +kernel
theorem dX6_paint_10 : decode cX6_paint 10 = .ok (.lconst 0, 1) := by decide +kernel
theorem dX6_paint_11 : decode cX6_paint 11 = .ok (.ldc2_w 170, 3) := by decide +kernel
theorem dX6_paint_14 : decode cX6_paint 14 = .ok (.invokestatic 54, 3) := by decide +kernel
theorem dX6_paint_17 : decode cX6_paint 17 = .ok (.ifCond .ne 6, 3) := by decide +kernel
theorem dX6_paint_20 : decode cX6_paint 20 = .ok (.ldc 64, 2) := by decide +kernel
theorem dX6_paint_22 : decode cX6_paint 22 = .ok (.ireturn, 1) := by decide +kernel
theorem dX6_paint_23 : decode cX6_paint 23 = .ok (.aload_n 0, 1) := by decide +kernel
theorem dX6_paint_24 : decode cX6_paint 24 = .ok (.iload_n 1, 1) := by decide +kernel
theorem dX6_paint_25 : decode cX6_paint 25 = .ok (.invokevirtual 172, 3) := by decide +kernel
theorem dX6_paint_28 : decode cX6_paint 28 = .ok (.istore_n 3, 1) := by decide +kernel
theorem dX6_paint_29 : decode cX6_paint 29 = .ok (.aload_n 0, 1) := by decide +kernel
theorem dX6_paint_30 : decode cX6_paint 30 = .ok (.invokevirtual 165, 3) := by decide +kernel
theorem dX6_paint_33 : decode cX6_paint 33 = .ok (.aload_n 0, 1) := by decide +kernel
theorem dX6_paint_34 : decode cX6_paint 34 = .ok (.getfield 7, 3) := by decide +kernel
theorem dX6_paint_37 : decode cX6_paint 37 = .ok (.bipush 25, 2) := by decide +kernel
theorem dX6_paint_39 : decode cX6_paint 39 = .ok (.iload_n 1, 1) := by decide +kernel
theorem dX6_paint_40 : decode cX6_paint 40 = .ok (.iadd, 1) := by decide +kernel
theorem dX6_paint_41 : decode cX6_paint 41 = .ok (.iload_n 2, 1) := by decide +kernel
theorem dX6_paint_42 : decode cX6_paint 42 = .ok (.iastore, 1) := by decide +kernel
theorem dX6_paint_43 : decode cX6_paint 43 = .ok (.iload_n 3, 1) := by decide +kernel
theorem dX6_paint_44 : decode cX6_paint 44 = .ok (.ireturn, 1) := by decide +kernel
theorem dX6_hedge_0 : decode cX6_hedge 0 = .ok (.aload_n 0, 1) := by decide +kernel
theorem dX6_hedge_1 : decode cX6_hedge 1 = .ok (.iload_n 1, 1) := by decide +kernel
theorem dX6_hedge_2 : decode cX6_hedge 2 = .ok (.invokevirtual 148, 3) := by decide +kernel
theorem dX6_hedge_5 : decode cX6_hedge 5 = .ok (.ifCond .eq 13, 3) := by decide +kernel
theorem dX6_hedge_8 : decode cX6_hedge 8 = .ok (.iload_n 2, 1) := by decide +kernel
theorem dX6_hedge_9 : decode cX6_hedge 9 = .ok (.i2l, 1) := by decide +kernel
theorem dX6_hedge_10 : decode cX6_hedge 10 = .ok (.lconst 0, 1) := by decide +kernel
theorem dX6_hedge_11 : decode cX6_hedge 11 = .ok (.lconst 1, 1) := by decide +kernel
theorem dX6_hedge_12 : decode cX6_hedge 12 = .ok (.invokestatic 54, 3) := by decide +kernel
theorem dX6_hedge_15 : decode cX6_hedge 15 = .ok (.ifCond .ne 6, 3) := by decide +kernel
theorem dX6_hedge_18 : decode cX6_hedge 18 = .ok (.ldc 64, 2) := by decide +kernel
theorem dX6_hedge_20 : decode cX6_hedge 20 = .ok (.ireturn, 1) := by decide +kernel
theorem dX6_hedge_21 : decode cX6_hedge 21 = .ok (.aload_n 0, 1) := by decide +kernel
theorem dX6_hedge_22 : decode cX6_hedge 22 = .ok (.getfield 7, 3) := by decide +kernel
theorem dX6_hedge_25 : decode cX6_hedge 25 = .ok (.bipush 18, 2) := by decide +kernel
theorem dX6_hedge_27 : decode cX6_hedge 27 = .ok (.iload_n 1, 1) := by decide +kernel
theorem dX6_hedge_28 : decode cX6_hedge 28 = .ok (.iadd, 1) := by decide +kernel
theorem dX6_hedge_29 : decode cX6_hedge 29 = .ok (.iaload, 1) := by decide +kernel
theorem dX6_hedge_30 : decode cX6_hedge 30 = .ok (.istore_n 3, 1) := by decide +kernel
theorem dX6_hedge_31 : decode cX6_hedge 31 = .ok (.aload_n 0, 1) := by decide +kernel
theorem dX6_hedge_32 : decode cX6_hedge 32 = .ok (.invokevirtual 165, 3) := by decide +kernel
theorem dX6_hedge_35 : decode cX6_hedge 35 = .ok (.aload_n 0, 1) := by decide +kernel
theorem dX6_hedge_36 : decode cX6_hedge 36 = .ok (.getfield 7, 3) := by decide +kernel
theorem dX6_hedge_39 : decode cX6_hedge 39 = .ok (.bipush 18, 2) := by decide +kernel
theorem dX6_hedge_41 : decode cX6_hedge 41 = .ok (.iload_n 1, 1) := by decide +kernel
theorem dX6_hedge_42 : decode cX6_hedge 42 = .ok (.iadd, 1) := by decide +kernel
theorem dX6_hedge_43 : decode cX6_hedge 43 = .ok (.iload_n 2, 1) := by decide +kernel
theorem dX6_hedge_44 : decode cX6_hedge 44 = .ok (.iastore, 1) := by decide +kernel
theorem dX6_hedge_45 : decode cX6_hedge 45 = .ok (.iload_n 3, 1) := by decide +kernel
theorem dX6_hedge_46 : decode cX6_hedge 46 = .ok (.ireturn, 1) := by decide +kernel
theorem dX6_undo_0 : decode cX6_undo 0 = .ok (.aload_n 0, 1) := by decide +kernel
theorem dX6_undo_1 : decode cX6_undo 1 = .ok (.getfield 145, 3) := by decide +kernel
theorem dX6_undo_4 : decode cX6_undo 4 = .ok (.ifCond .ne 6, 3) := by decide +kernel
theorem dX6_undo_7 : decode cX6_undo 7 = .ok (.ldc 163, 2) := by decide +kernel
theorem dX6_undo_9 : decode cX6_undo 9 = .ok (.ireturn, 1) := by decide +kernel
theorem dX6_undo_10 : decode cX6_undo 10 = .ok (.aload_n 0, 1) := by decide +kernel
theorem dX6_undo_11 : decode cX6_undo 11 = .ok (.dup, 1) := by decide +kernel
theorem dX6_undo_12 : decode cX6_undo 12 = .ok (.getfield 145, 3) := by decide +kernel
theorem dX6_undo_15 : decode cX6_undo 15 = .ok (.iconst 1, 1) := by decide +kernel
theorem dX6_undo_16 : decode cX6_undo 16 = .ok (.isub, 1) := by decide +kernel
theorem dX6_undo_17 : decode cX6_undo 17 = .ok (.putfield 145, 3) := by decide +kernel
theorem dX6_undo_20 : decode cX6_undo 20 = .ok (.iconst 0, 1) := by decide +kernel
theorem dX6_undo_21 : decode cX6_undo 21 = .ok (.istore_n 1, 1) := by decide +kernel
theorem dX6_undo_22 : decode cX6_undo 22 = .ok (.iload_n 1, 1) := by decide +kernel
theorem dX6_undo_23 : decode cX6_undo 23 = .ok (.bipush 96, 2) := by decide +kernel
theorem dX6_undo_25 : decode cX6_undo 25 = .ok (.if_icmp .ge 29, 3) := by decide +kernel
theorem dX6_undo_28 : decode cX6_undo 28 = .ok (.aload_n 0, 1) := by decide +kernel
theorem dX6_undo_29 : decode cX6_undo 29 = .ok (.getfield 7, 3) := by decide +kernel
theorem dX6_undo_32 : decode cX6_undo 32 = .ok (.iload_n 1, 1) := by decide +kernel
theorem dX6_undo_33 : decode cX6_undo 33 = .ok (.aload_n 0, 1) := by decide +kernel
theorem dX6_undo_34 : decode cX6_undo 34 = .ok (.getfield 23, 3) := by decide +kernel
theorem dX6_undo_37 : decode cX6_undo 37 = .ok (.bipush 96, 2) := by decide +kernel
theorem dX6_undo_39 : decode cX6_undo 39 = .ok (.aload_n 0, 1) := by decide +kernel
theorem dX6_undo_40 : decode cX6_undo 40 = .ok (.getfield 145, 3) := by decide +kernel
theorem dX6_undo_43 : decode cX6_undo 43 = .ok (.imul, 1) := by decide +kernel
theorem dX6_undo_44 : decode cX6_undo 44 = .ok (.iload_n 1, 1) := by decide +kernel
theorem dX6_undo_45 : decode cX6_undo 45 = .ok (.iadd, 1) := by decide +kernel
theorem dX6_undo_46 : decode cX6_undo 46 = .ok (.iaload, 1) := by decide +kernel
theorem dX6_undo_47 : decode cX6_undo 47 = .ok (.iastore, 1) := by decide +kernel
theorem dX6_undo_48 : decode cX6_undo 48 = .ok (.iinc 1 1, 3) := by decide +kernel
theorem dX6_undo_51 : decode cX6_undo 51 = .ok (.goto (-29), 3) := by decide +kernel
theorem dX6_undo_54 : decode cX6_undo 54 = .ok (.aload_n 0, 1) := by decide +kernel
theorem dX6_undo_55 : decode cX6_undo 55 = .ok (.getfield 145, 3) := by decide +kernel
theorem dX6_undo_58 : decode cX6_undo 58 = .ok (.ireturn, 1) := by decide +kernel
theorem dX6_trace_0 : decode cX6_trace 0 = .ok (.iload_n 1, 1) := by decide +kernel
theorem dX6_trace_1 : decode cX6_trace 1 = .ok (.i2l, 1) := by decide +kernel
theorem dX6_trace_2 : decode cX6_trace 2 = .ok (.lconst 0, 1) := by decide +kernel
theorem dX6_trace_3 : decode cX6_trace 3 = .ok (.aload_n 0, 1) := by decide +kernel
theorem dX6_trace_4 : decode cX6_trace 4 = .ok (.getfield 210, 3) := by decide +kernel
theorem dX6_trace_7 : decode cX6_trace 7 = .ok (.iconst 1, 1) := by decide +kernel
theorem dX6_trace_8 : decode cX6_trace 8 = .ok (.isub, 1) := by decide +kernel
theorem dX6_trace_9 : decode cX6_trace 9 = .ok (.i2l, 1) := by decide +kernel
theorem dX6_trace_10 : decode cX6_trace 10 = .ok (.invokestatic 54, 3) := by decide +kernel
theorem dX6_trace_13 : decode cX6_trace 13 = .ok (.ifCond .eq 12, 3) := by decide +kernel
theorem dX6_trace_16 : decode cX6_trace 16 = .ok (.aload_n 0, 1) := by decide +kernel
theorem dX6_trace_17 : decode cX6_trace 17 = .ok (.getfield 44, 3) := by decide +kernel
theorem dX6_trace_20 : decode cX6_trace 20 = .ok (.iload_n 1, 1) := by decide +kernel
theorem dX6_trace_21 : decode cX6_trace 21 = .ok (.iaload, 1) := by decide +kernel
theorem dX6_trace_22 : decode cX6_trace 22 = .ok (.goto 5, 3) := by decide +kernel
theorem dX6_trace_25 : decode cX6_trace 25 = .ok (.ldc 204, 2) := by decide +kernel
theorem dX6_trace_27 : decode cX6_trace 27 = .ok (.ireturn, 1) := by decide +kernel
theorem dX6_kind_0 : decode cX6_kind 0 = .ok (.aload_n 0, 1) := by decide +kernel
theorem dX6_kind_1 : decode cX6_kind 1 = .ok (.iload_n 1, 1) := by decide +kernel
theorem dX6_kind_2 : decode cX6_kind 2 = .ok (.invokevirtual 148, 3) := by decide +kernel
theorem dX6_kind_5 : decode cX6_kind 5 = .ok (.ifCond .eq 11, 3) := by decide +kernel
theorem dX6_kind_8 : decode cX6_kind 8 = .ok (.aload_n 0, 1) := by decide +kernel
theorem dX6_kind_9 : decode cX6_kind 9 = .ok (.iload_n 1, 1) := by decide +kernel
theorem dX6_kind_10 : decode cX6_kind 10 = .ok (.invokevirtual 205, 3) := by decide +kernel
theorem dX6_kind_13 : decode cX6_kind 13 = .ok (.goto 5, 3) := by decide +kernel
theorem dX6_kind_16 : decode cX6_kind 16 = .ok (.ldc 64, 2) := by decide +kernel
theorem dX6_kind_18 : decode cX6_kind 18 = .ok (.ireturn, 1) := by decide +kernel
theorem dX6_image_0 : decode cX6_image 0 = .ok (.iload_n 1, 1) := by decide +kernel
theorem dX6_image_1 : decode cX6_image 1 = .ok (.i2l, 1) := by decide +kernel
theorem dX6_image_2 : decode cX6_image 2 = .ok (.lconst 0, 1) := by decide +kernel
theorem dX6_image_3 : decode cX6_image 3 = .ok (.lconst 1, 1) := by decide +kernel
theorem dX6_image_4 : decode cX6_image 4 = .ok (.invokestatic 54, 3) := by decide +kernel
theorem dX6_image_7 : decode cX6_image 7 = .ok (.ifCond .ne 6, 3) := by decide +kernel
theorem dX6_image_10 : decode cX6_image 10 = .ok (.ldc 64, 2) := by decide +kernel
theorem dX6_image_12 : decode cX6_image 12 = .ok (.ireturn, 1) := by decide +kernel
theorem dX6_image_13 : decode cX6_image 13 = .ok (.aload_n 0, 1) := by decide +kernel
theorem dX6_image_14 : decode cX6_image 14 = .ok (.getfield 7, 3) := by decide +kernel
theorem dX6_image_17 : decode cX6_image 17 = .ok (.iconst 0, 1) := by decide +kernel
theorem dX6_image_18 : decode cX6_image 18 = .ok (.iaload, 1) := by decide +kernel
theorem dX6_image_19 : decode cX6_image 19 = .ok (.ifCond .ne 6, 3) := by decide +kernel
theorem dX6_image_22 : decode cX6_image 22 = .ok (.ldc 163, 2) := by decide +kernel
theorem dX6_image_24 : decode cX6_image 24 = .ok (.ireturn, 1) := by decide +kernel
theorem dX6_image_25 : decode cX6_image 25 = .ok (.iconst 0, 1) := by decide +kernel
theorem dX6_image_26 : decode cX6_image 26 = .ok (.istore_n 2, 1) := by decide +kernel
theorem dX6_image_27 : decode cX6_image 27 = .ok (.iload_n 2, 1) := by decide +kernel
theorem dX6_image_28 : decode cX6_image 28 = .ok (.bipush 96, 2) := by decide +kernel
theorem dX6_image_30 : decode cX6_image 30 = .ok (.if_icmp .ge 26, 3) := by decide +kernel
theorem dX6_image_33 : decode cX6_image 33 = .ok (.aload_n 0, 1) := by decide +kernel
theorem dX6_image_34 : decode cX6_image 34 = .ok (.getfield 16, 3) := by decide +kernel
theorem dX6_image_37 : decode cX6_image 37 = .ok (.bipush 96, 2) := by decide +kernel
theorem dX6_image_39 : decode cX6_image 39 = .ok (.iload_n 1, 1) := by decide +kernel
theorem dX6_image_40 : decode cX6_image 40 = .ok (.imul, 1) := by decide +kernel
theorem dX6_image_41 : decode cX6_image 41 = .ok (.iload_n 2, 1) := by decide +kernel
theorem dX6_image_42 : decode cX6_image 42 = .ok (.iadd, 1) := by decide +kernel
theorem dX6_image_43 : decode cX6_image 43 = .ok (.aload_n 0, 1) := by decide +kernel
theorem dX6_image_44 : decode cX6_image 44 = .ok (.getfield 7, 3) := by decide +kernel
theorem dX6_image_47 : decode cX6_image 47 = .ok (.iload_n 2, 1) := by decide +kernel
theorem dX6_image_48 : decode cX6_image 48 = .ok (.iaload, 1) := by decide +kernel
theorem dX6_image_49 : decode cX6_image 49 = .ok (.iastore, 1) := by decide +kernel
theorem dX6_image_50 : decode cX6_image 50 = .ok (.iinc 2 1, 3) := by decide +kernel
theorem dX6_image_53 : decode cX6_image 53 = .ok (.goto (-26), 3) := by decide +kernel
theorem dX6_image_56 : decode cX6_image 56 = .ok (.aload_n 0, 1) := by decide +kernel
theorem dX6_image_57 : decode cX6_image 57 = .ok (.getfield 19, 3) := by decide +kernel
theorem dX6_image_60 : decode cX6_image 60 = .ok (.iload_n 1, 1) := by decide +kernel
theorem dX6_image_61 : decode cX6_image 61 = .ok (.iconst 1, 1) := by decide +kernel
theorem dX6_image_62 : decode cX6_image 62 = .ok (.bastore, 1) := by decide +kernel
theorem dX6_image_63 : decode cX6_image 63 = .ok (.iconst 1, 1) := by decide +kernel
theorem dX6_image_64 : decode cX6_image 64 = .ok (.ireturn, 1) := by decide +kernel
theorem dX6_restore_0 : decode cX6_restore 0 = .ok (.iload_n 1, 1) := by decide +kernel
theorem dX6_restore_1 : decode cX6_restore 1 = .ok (.i2l, 1) := by decide +kernel
theorem dX6_restore_2 : decode cX6_restore 2 = .ok (.lconst 0, 1) := by decide +kernel
theorem dX6_restore_3 : decode cX6_restore 3 = .ok (.lconst 1, 1) := by decide +kernel
theorem dX6_restore_4 : decode cX6_restore 4 = .ok (.invokestatic 54, 3) := by decide +kernel
theorem dX6_restore_7 : decode cX6_restore 7 = .ok (.ifCond .ne 6, 3) := by decide +kernel
theorem dX6_restore_10 : decode cX6_restore 10 = .ok (.ldc 64, 2) := by decide +kernel
theorem dX6_restore_12 : decode cX6_restore 12 = .ok (.ireturn, 1) := by decide +kernel
theorem dX6_restore_13 : decode cX6_restore 13 = .ok (.aload_n 0, 1) := by decide +kernel
theorem dX6_restore_14 : decode cX6_restore 14 = .ok (.getfield 19, 3) := by decide +kernel
theorem dX6_restore_17 : decode cX6_restore 17 = .ok (.iload_n 1, 1) := by decide +kernel
theorem dX6_restore_18 : decode cX6_restore 18 = .ok (.baload, 1) := by decide +kernel
theorem dX6_restore_19 : decode cX6_restore 19 = .ok (.ifCond .ne 6, 3) := by decide +kernel
theorem dX6_restore_22 : decode cX6_restore 22 = .ok (.ldc 163, 2) := by decide +kernel
theorem dX6_restore_24 : decode cX6_restore 24 = .ok (.ireturn, 1) := by decide +kernel
theorem dX6_restore_25 : decode cX6_restore 25 = .ok (.iconst 0, 1) := by decide +kernel
theorem dX6_restore_26 : decode cX6_restore 26 = .ok (.istore_n 2, 1) := by decide +kernel
theorem dX6_restore_27 : decode cX6_restore 27 = .ok (.iload_n 2, 1) := by decide +kernel
theorem dX6_restore_28 : decode cX6_restore 28 = .ok (.bipush 96, 2) := by decide +kernel
theorem dX6_restore_30 : decode cX6_restore 30 = .ok (.if_icmp .ge 26, 3) := by decide +kernel
theorem dX6_restore_33 : decode cX6_restore 33 = .ok (.aload_n 0, 1) := by decide +kernel
theorem dX6_restore_34 : decode cX6_restore 34 = .ok (.getfield 7, 3) := by decide +kernel
theorem dX6_restore_37 : decode cX6_restore 37 = .ok (.iload_n 2, 1) := by decide +kernel
theorem dX6_restore_38 : decode cX6_restore 38 = .ok (.aload_n 0, 1) := by decide +kernel
theorem dX6_restore_39 : decode cX6_restore 39 = .ok (.getfield 16, 3) := by decide +kernel
theorem dX6_restore_42 : decode cX6_restore 42 = .ok (.bipush 96, 2) := by decide +kernel
theorem dX6_restore_44 : decode cX6_restore 44 = .ok (.iload_n 1, 1) := by decide +kernel
theorem dX6_restore_45 : decode cX6_restore 45 = .ok (.imul, 1) := by decide +kernel
theorem dX6_restore_46 : decode cX6_restore 46 = .ok (.iload_n 2, 1) := by decide +kernel
theorem dX6_restore_47 : decode cX6_restore 47 = .ok (.iadd, 1) := by decide +kernel
theorem dX6_restore_48 : decode cX6_restore 48 = .ok (.iaload, 1) := by decide +kernel
theorem dX6_restore_49 : decode cX6_restore 49 = .ok (.iastore, 1) := by decide +kernel
theorem dX6_restore_50 : decode cX6_restore 50 = .ok (.iinc 2 1, 3) := by decide +kernel
theorem dX6_restore_53 : decode cX6_restore 53 = .ok (.goto (-26), 3) := by decide +kernel
theorem dX6_restore_56 : decode cX6_restore 56 = .ok (.aload_n 0, 1) := by decide +kernel
theorem dX6_restore_57 : decode cX6_restore 57 = .ok (.iconst 0, 1) := by decide +kernel
theorem dX6_restore_58 : decode cX6_restore 58 = .ok (.putfield 145, 3) := by decide +kernel
theorem dX6_restore_61 : decode cX6_restore 61 = .ok (.iconst 1, 1) := by decide +kernel
theorem dX6_restore_62 : decode cX6_restore 62 = .ok (.ireturn, 1) := by decide +kernel
theorem mH_t0 {σ : AH} {a0 a1 a2 a3 a4 a5 a6 a7 a8 a9 a10 a11 : Nat → Int32} {i0 i1 i2 i3 i4 i5 i6 i7 i8 i9 i10 i11 : Int32} {f g : Nat → Int32} (h : f = g) : ups (mH σ a0 a1 a2 a3 a4 a5 a6 a7 a8 a9 a10 a11 i0 i1 i2 i3 i4 i5 i6 i7 i8 i9 i10 i11) 172 (.inl (0, 96, f)) = (mH σ g a1 a2 a3 a4 a5 a6 a7 a8 a9 a10 a11 i0 i1 i2 i3 i4 i5 i6 i7 i8 i9 i10 i11) := by subst h; exact mH_s0
theorem mH_t1 {σ : AH} {a0 a1 a2 a3 a4 a5 a6 a7 a8 a9 a10 a11 : Nat → Int32} {i0 i1 i2 i3 i4 i5 i6 i7 i8 i9 i10 i11 : Int32} {f g : Nat → Int32} (h : f = g) : ups (mH σ a0 a1 a2 a3 a4 a5 a6 a7 a8 a9 a10 a11 i0 i1 i2 i3 i4 i5 i6 i7 i8 i9 i10 i11) 173 (.inl (0, 96, f)) = (mH σ a0 g a2 a3 a4 a5 a6 a7 a8 a9 a10 a11 i0 i1 i2 i3 i4 i5 i6 i7 i8 i9 i10 i11) := by subst h; exact mH_s1
def oneI (x : Int32) (n : Nat) : Int32 := if npI x n = 0 then nI 1 else nI 0
def twoI (a b : Int32) (n : Nat) : Int32 := if nqI a b n = 0 then nI 1 else nI 0
theorem np_ex {x : Int32} {n : Nat} (hn : n < 2 ^ 31) (h : npI x n = 0) : ∃ p : Nat, p < n ∧ x = nI p := by
  unfold npI at h
  by_cases h1 : x < 0
  · rw [if_pos h1] at h; exact absurd h (by decide)
  · rw [if_neg h1] at h
    by_cases h2 : x < nI n
    · rcases pk_ix x hn with q | q | q
      · exact absurd q h1
      · exact absurd h2 (Int32.not_lt.mpr q)
      · exact q
    · rw [if_neg h2] at h; exact absurd h (by decide)
theorem nq_ex {a b : Int32} {n : Nat} (hn : n < 2 ^ 31) (h : nqI a b n = 0) : ∃ p q : Nat, p < n ∧ q < n ∧ p ≠ q ∧ a = nI p ∧ b = nI q := by
  unfold nqI at h
  by_cases h1 : npI a n = 0
  · rw [if_pos h1] at h
    by_cases h2 : npI b n = 0
    · rw [if_pos h2] at h
      by_cases h3 : a = b
      · rw [if_pos h3] at h; exact absurd h (by decide)
      · obtain ⟨p, hp, rfl⟩ := np_ex hn h1
        obtain ⟨q, hq, rfl⟩ := np_ex hn h2
        exact ⟨p, q, hp, hq, fun e => h3 (by rw [e]), rfl, rfl⟩
    · rw [if_neg h2] at h; exact absurd h (by decide)
  · rw [if_neg h1] at h; exact absurd h (by decide)
theorem oneI_k {p n : Nat} (hp : p < n) (hn : n ≤ 7) : oneI (nI p) n = nI 1 := by
  unfold oneI npI
  rw [if_neg (nI_pos (by omega)), if_pos (nI_lt hp (by omega)), if_pos (by decide)]
theorem twoI_k {p q n : Nat} (hp : p < n) (hq : q < n) (hpq : p ≠ q) (hn : n ≤ 7) : twoI (nI p) (nI q) n = nI 1 := by
  unfold twoI nqI npI
  rw [if_neg (nI_pos (by omega)), if_pos (nI_lt hp (by omega)), if_neg (nI_pos (by omega)), if_pos (nI_lt hq (by omega)), if_neg (fun e => hpq ((nI_eq (by omega) (by omega)).mp e))]
  decide
theorem oneI_ne {x : Int32} {n : Nat} (h : ¬ oneI x n = 0) : npI x n = 0 := by
  unfold oneI at h
  by_cases q : npI x n = 0
  · exact q
  · rw [if_neg q] at h; exact absurd rfl h
theorem twoI_ne {a b : Int32} {n : Nat} (h : ¬ twoI a b n = 0) : nqI a b n = 0 := by
  unfold twoI at h
  by_cases q : nqI a b n = 0
  · exact q
  · rw [if_neg q] at h; exact absurd rfl h
section M4
variable {G : GG} {z : Nat} {σ : AH} {a0 a1 a2 a3 a4 a5 a6 a7 a8 a9 a10 a11 : Nat → Int32} {i0 i1 i2 i3 i4 i5 i6 i7 i8 i9 i10 i11 : Int32}
theorem m_one {n : Nat} (h0 : a0 2 = nI n) (hn : n ≤ 7) (x : Int32) : Ct G yX6_isOne cX6_isOne 2 (some .boolean) 2 0 0 z (mH σ a0 a1 a2 a3 a4 a5 a6 a7 a8 a9 a10 a11 i0 i1 i2 i3 i4 i5 i6 i7 i8 i9 i10 i11) [.ref 171, .int x] (some (.int (oneI x n))) z (mH σ a0 a1 a2 a3 a4 a5 a6 a7 a8 a9 a10 a11 i0 i1 i2 i3 i4 i5 i6 i7 i8 i9 i10 i11) := by
  by_cases h : npI x n = 0
  · obtain ⟨p, hp, rfl⟩ := np_ex (by omega) h
    rw [oneI_k hp hn]
    exact m_isOne1 h0 hn hp
  · rw [show oneI x n = nI 0 from if_neg h]
    exact m_isOne0 h0 hn x h
theorem m_two {n : Nat} (h0 : a0 2 = nI n) (hn : n ≤ 7) (a b : Int32) : Ct G yX6_areTwo cX6_areTwo 3 (some .boolean) 3 0 0 z (mH σ a0 a1 a2 a3 a4 a5 a6 a7 a8 a9 a10 a11 i0 i1 i2 i3 i4 i5 i6 i7 i8 i9 i10 i11) [.ref 171, .int a, .int b] (some (.int (twoI a b n))) z (mH σ a0 a1 a2 a3 a4 a5 a6 a7 a8 a9 a10 a11 i0 i1 i2 i3 i4 i5 i6 i7 i8 i9 i10 i11) := by
  by_cases h : nqI a b n = 0
  · obtain ⟨p, q, hp, hq, hpq, rfl, rfl⟩ := nq_ex (by omega) h
    rw [twoI_k hp hq hpq hn]
    exact m_areTwo1 h0 hn hp hq hpq
  · rw [show twoI a b n = nI 0 from if_neg h]
    exact m_areTwo0 h0 hn a b h
theorem m_fault : Ct G yX6_fault cX6_fault 1 (some .int) 1 0 0 z (mH σ a0 a1 a2 a3 a4 a5 a6 a7 a8 a9 a10 a11 i0 i1 i2 i3 i4 i5 i6 i7 i8 i9 i10 i11) [.ref 171] (some (.int i2)) z (mH σ a0 a1 a2 a3 a4 a5 a6 a7 a8 a9 a10 a11 i0 i1 i2 i3 i4 i5 i6 i7 i8 i9 i10 i11) := by
  refine Ct.ofJ RX6 rfl [some (.ref 171)] rfl (by decide) (by simp [Value.category]) ?_
  refine j_aload_n dX6_fault_0 rfl rfl ?_
  refine j_getf dX6_fault_1 6 7 rfl (Nat.le_of_ble_eq_true rfl) fl_X6_141 in_6 mH_o rfl ?_
  exact j_iret rfl dX6_fault_4 rfl rfl (Nat.le_of_ble_eq_true rfl) (Nat.le_of_ble_eq_true rfl)
theorem m_status : Ct G yX6_status cX6_status 1 (some .int) 1 0 0 z (mH σ a0 a1 a2 a3 a4 a5 a6 a7 a8 a9 a10 a11 i0 i1 i2 i3 i4 i5 i6 i7 i8 i9 i10 i11) [.ref 171] (some (.int i1)) z (mH σ a0 a1 a2 a3 a4 a5 a6 a7 a8 a9 a10 a11 i0 i1 i2 i3 i4 i5 i6 i7 i8 i9 i10 i11) := by
  refine Ct.ofJ RX6 rfl [some (.ref 171)] rfl (by decide) (by simp [Value.category]) ?_
  refine j_aload_n dX6_status_0 rfl rfl ?_
  refine j_getf dX6_status_1 6 6 rfl (Nat.le_of_ble_eq_true rfl) fl_X6_47 in_6 mH_o rfl ?_
  exact j_iret rfl dX6_status_4 rfl rfl (Nat.le_of_ble_eq_true rfl) (Nat.le_of_ble_eq_true rfl)
theorem m_loan_bad {n : Nat} (h0 : a0 2 = nI n) (hn : n ≤ 7) (a b v : Int32) (h : ¬ nqI a b n = 0 ∨ v < nI 1 ∨ nI 999 < v) : Ct G yX6_loan cX6_loan 4 (some .int) 4 0 0 z (mH σ a0 a1 a2 a3 a4 a5 a6 a7 a8 a9 a10 a11 i0 i1 i2 i3 i4 i5 i6 i7 i8 i9 i10 i11) [.ref 171, .int a, .int b, .int v] (some (.int (-1000001))) z (mH σ a0 a1 a2 a3 a4 a5 a6 a7 a8 a9 a10 a11 i0 i1 i2 i3 i4 i5 i6 i7 i8 i9 i10 i11) := by
  refine Ct.ofJ RX6 rfl [some (.ref 171), some (.int a), some (.int b), some (.int v)] rfl (by decide) (by simp [Value.category]) ?_
  refine j_aload_n dX6_loan_0 rfl rfl ?_
  refine j_iload_n dX6_loan_1 rfl rfl ?_
  refine j_iload_n dX6_loan_2 rfl rfl ?_
  refine j_callV (m_two h0 hn a b) dX6_loan_3 rfl mv_X6_158 mH_o rfl ⟨(Nat.le_of_ble_eq_true rfl), (Nat.le_of_ble_eq_true rfl)⟩ ⟨(Nat.le_of_ble_eq_true rfl), (Nat.le_of_ble_eq_true rfl)⟩ (Nat.le_of_ble_eq_true rfl) ?_
  refine j_if_eq 21 dX6_loan_6 (by decide) (fun b6 => ?_) (fun b6 => ?_)
  · refine j_ldc (-1000001) dX6_loan_21 kc_X6_64 ?_
    exact j_iret rfl dX6_loan_23 rfl rfl (Nat.le_of_ble_eq_true rfl) (Nat.le_of_ble_eq_true rfl)
  · refine j_iload_n dX6_loan_9 rfl rfl ?_
    refine j_i2l dX6_loan_10 ?_
    refine j_lconst (1) dX6_loan_11 rfl ?_
    refine j_ldc2 (999) dX6_loan_12 kl_X6_161 ?_
    refine j_callS (m_in3 v (nI 1) (nI 999) rfl rfl) dX6_loan_15 rfl ms_X6_54 ⟨(Nat.le_of_ble_eq_true rfl), (Nat.le_of_ble_eq_true rfl)⟩ ⟨(Nat.le_of_ble_eq_true rfl), (Nat.le_of_ble_eq_true rfl)⟩ (Nat.le_of_ble_eq_true rfl) ?_
    refine j_if_ne 24 dX6_loan_18 (by decide) (fun b18 => ?_) (fun b18 => ?_)
    · exact absurd h (fun q => q.elim (fun w => w (twoI_ne b6)) (fun w => w.elim (inI_ne b18).1 (fun u => absurd (inI_ne b18).2 (Int32.not_le.mpr u))))
    · refine j_ldc (-1000001) dX6_loan_21 kc_X6_64 ?_
      exact j_iret rfl dX6_loan_23 rfl rfl (Nat.le_of_ble_eq_true rfl) (Nat.le_of_ble_eq_true rfl)
theorem m_pay_bad {n : Nat} (h0 : a0 2 = nI n) (hn : n ≤ 7) (a b v : Int32) (h : ¬ nqI a b n = 0 ∨ v < nI 1 ∨ 99999 < v) : Ct G yX6_pay cX6_pay 4 (some .int) 4 0 0 z (mH σ a0 a1 a2 a3 a4 a5 a6 a7 a8 a9 a10 a11 i0 i1 i2 i3 i4 i5 i6 i7 i8 i9 i10 i11) [.ref 171, .int a, .int b, .int v] (some (.int (-1000001))) z (mH σ a0 a1 a2 a3 a4 a5 a6 a7 a8 a9 a10 a11 i0 i1 i2 i3 i4 i5 i6 i7 i8 i9 i10 i11) := by
  refine Ct.ofJ RX6 rfl [some (.ref 171), some (.int a), some (.int b), some (.int v)] rfl (by decide) (by simp [Value.category]) ?_
  refine j_aload_n dX6_pay_0 rfl rfl ?_
  refine j_iload_n dX6_pay_1 rfl rfl ?_
  refine j_iload_n dX6_pay_2 rfl rfl ?_
  refine j_callV (m_two h0 hn a b) dX6_pay_3 rfl mv_X6_158 mH_o rfl ⟨(Nat.le_of_ble_eq_true rfl), (Nat.le_of_ble_eq_true rfl)⟩ ⟨(Nat.le_of_ble_eq_true rfl), (Nat.le_of_ble_eq_true rfl)⟩ (Nat.le_of_ble_eq_true rfl) ?_
  refine j_if_eq 21 dX6_pay_6 (by decide) (fun b6 => ?_) (fun b6 => ?_)
  · refine j_ldc (-1000001) dX6_pay_21 kc_X6_64 ?_
    exact j_iret rfl dX6_pay_23 rfl rfl (Nat.le_of_ble_eq_true rfl) (Nat.le_of_ble_eq_true rfl)
  · refine j_iload_n dX6_pay_9 rfl rfl ?_
    refine j_i2l dX6_pay_10 ?_
    refine j_lconst (1) dX6_pay_11 rfl ?_
    refine j_ldc2 (99999) dX6_pay_12 kl_X6_168 ?_
    refine j_callS (m_in3 v (nI 1) 99999 rfl rfl) dX6_pay_15 rfl ms_X6_54 ⟨(Nat.le_of_ble_eq_true rfl), (Nat.le_of_ble_eq_true rfl)⟩ ⟨(Nat.le_of_ble_eq_true rfl), (Nat.le_of_ble_eq_true rfl)⟩ (Nat.le_of_ble_eq_true rfl) ?_
    refine j_if_ne 24 dX6_pay_18 (by decide) (fun b18 => ?_) (fun b18 => ?_)
    · exact absurd h (fun q => q.elim (fun w => w (twoI_ne b6)) (fun w => w.elim (inI_ne b18).1 (fun u => absurd (inI_ne b18).2 (Int32.not_le.mpr u))))
    · refine j_ldc (-1000001) dX6_pay_21 kc_X6_64 ?_
      exact j_iret rfl dX6_pay_23 rfl rfl (Nat.le_of_ble_eq_true rfl) (Nat.le_of_ble_eq_true rfl)
theorem m_paint_bad {n : Nat} (h0 : a0 2 = nI n) (hn : n ≤ 7) (p v : Int32) (h : ¬ npI p n = 0 ∨ v < 0 ∨ nI 9 < v) : Ct G yX6_paint cX6_paint 4 (some .int) 5 0 0 z (mH σ a0 a1 a2 a3 a4 a5 a6 a7 a8 a9 a10 a11 i0 i1 i2 i3 i4 i5 i6 i7 i8 i9 i10 i11) [.ref 171, .int p, .int v] (some (.int (-1000001))) z (mH σ a0 a1 a2 a3 a4 a5 a6 a7 a8 a9 a10 a11 i0 i1 i2 i3 i4 i5 i6 i7 i8 i9 i10 i11) := by
  refine Ct.ofJ RX6 rfl [some (.ref 171), some (.int p), some (.int v), none] rfl (by decide) (by simp [Value.category]) ?_
  refine j_aload_n dX6_paint_0 rfl rfl ?_
  refine j_iload_n dX6_paint_1 rfl rfl ?_
  refine j_callV (m_one h0 hn p) dX6_paint_2 rfl mv_X6_148 mH_o rfl ⟨(Nat.le_of_ble_eq_true rfl), (Nat.le_of_ble_eq_true rfl)⟩ ⟨(Nat.le_of_ble_eq_true rfl), (Nat.le_of_ble_eq_true rfl)⟩ (Nat.le_of_ble_eq_true rfl) ?_
  refine j_if_eq 20 dX6_paint_5 (by decide) (fun b5 => ?_) (fun b5 => ?_)
  · refine j_ldc (-1000001) dX6_paint_20 kc_X6_64 ?_
    exact j_iret rfl dX6_paint_22 rfl rfl (Nat.le_of_ble_eq_true rfl) (Nat.le_of_ble_eq_true rfl)
  · refine j_iload_n dX6_paint_8 rfl rfl ?_
    refine j_i2l dX6_paint_9 ?_
    refine j_lconst (0) dX6_paint_10 rfl ?_
    refine j_ldc2 (9) dX6_paint_11 kl_X6_170 ?_
    refine j_callS (m_in3 v (nI 0) (nI 9) rfl rfl) dX6_paint_14 rfl ms_X6_54 ⟨(Nat.le_of_ble_eq_true rfl), (Nat.le_of_ble_eq_true rfl)⟩ ⟨(Nat.le_of_ble_eq_true rfl), (Nat.le_of_ble_eq_true rfl)⟩ (Nat.le_of_ble_eq_true rfl) ?_
    refine j_if_ne 23 dX6_paint_17 (by decide) (fun b17 => ?_) (fun b17 => ?_)
    · exact absurd h (fun q => q.elim (fun w => w (oneI_ne b5)) (fun w => w.elim (inI_ne b17).1 (fun u => absurd (inI_ne b17).2 (Int32.not_le.mpr u))))
    · refine j_ldc (-1000001) dX6_paint_20 kc_X6_64 ?_
      exact j_iret rfl dX6_paint_22 rfl rfl (Nat.le_of_ble_eq_true rfl) (Nat.le_of_ble_eq_true rfl)
theorem m_hedge_bad {n : Nat} (h0 : a0 2 = nI n) (hn : n ≤ 7) (p v : Int32) (h : ¬ npI p n = 0 ∨ v < 0 ∨ nI 1 < v) : Ct G yX6_hedge cX6_hedge 4 (some .int) 4 0 0 z (mH σ a0 a1 a2 a3 a4 a5 a6 a7 a8 a9 a10 a11 i0 i1 i2 i3 i4 i5 i6 i7 i8 i9 i10 i11) [.ref 171, .int p, .int v] (some (.int (-1000001))) z (mH σ a0 a1 a2 a3 a4 a5 a6 a7 a8 a9 a10 a11 i0 i1 i2 i3 i4 i5 i6 i7 i8 i9 i10 i11) := by
  refine Ct.ofJ RX6 rfl [some (.ref 171), some (.int p), some (.int v), none] rfl (by decide) (by simp [Value.category]) ?_
  refine j_aload_n dX6_hedge_0 rfl rfl ?_
  refine j_iload_n dX6_hedge_1 rfl rfl ?_
  refine j_callV (m_one h0 hn p) dX6_hedge_2 rfl mv_X6_148 mH_o rfl ⟨(Nat.le_of_ble_eq_true rfl), (Nat.le_of_ble_eq_true rfl)⟩ ⟨(Nat.le_of_ble_eq_true rfl), (Nat.le_of_ble_eq_true rfl)⟩ (Nat.le_of_ble_eq_true rfl) ?_
  refine j_if_eq 18 dX6_hedge_5 (by decide) (fun b5 => ?_) (fun b5 => ?_)
  · refine j_ldc (-1000001) dX6_hedge_18 kc_X6_64 ?_
    exact j_iret rfl dX6_hedge_20 rfl rfl (Nat.le_of_ble_eq_true rfl) (Nat.le_of_ble_eq_true rfl)
  · refine j_iload_n dX6_hedge_8 rfl rfl ?_
    refine j_i2l dX6_hedge_9 ?_
    refine j_lconst (0) dX6_hedge_10 rfl ?_
    refine j_lconst (1) dX6_hedge_11 rfl ?_
    refine j_callS (m_in3 v (nI 0) (nI 1) rfl rfl) dX6_hedge_12 rfl ms_X6_54 ⟨(Nat.le_of_ble_eq_true rfl), (Nat.le_of_ble_eq_true rfl)⟩ ⟨(Nat.le_of_ble_eq_true rfl), (Nat.le_of_ble_eq_true rfl)⟩ (Nat.le_of_ble_eq_true rfl) ?_
    refine j_if_ne 21 dX6_hedge_15 (by decide) (fun b15 => ?_) (fun b15 => ?_)
    · exact absurd h (fun q => q.elim (fun w => w (oneI_ne b5)) (fun w => w.elim (inI_ne b15).1 (fun u => absurd (inI_ne b15).2 (Int32.not_le.mpr u))))
    · refine j_ldc (-1000001) dX6_hedge_18 kc_X6_64 ?_
      exact j_iret rfl dX6_hedge_20 rfl rfl (Nat.le_of_ble_eq_true rfl) (Nat.le_of_ble_eq_true rfl)
theorem m_kind_bad {n : Nat} (h0 : a0 2 = nI n) (hn : n ≤ 7) (p : Int32) (h : ¬ npI p n = 0) : Ct G yX6_kind cX6_kind 2 (some .int) 5 0 0 z (mH σ a0 a1 a2 a3 a4 a5 a6 a7 a8 a9 a10 a11 i0 i1 i2 i3 i4 i5 i6 i7 i8 i9 i10 i11) [.ref 171, .int p] (some (.int (-1000001))) z (mH σ a0 a1 a2 a3 a4 a5 a6 a7 a8 a9 a10 a11 i0 i1 i2 i3 i4 i5 i6 i7 i8 i9 i10 i11) := by
  refine Ct.ofJ RX6 rfl [some (.ref 171), some (.int p)] rfl (by decide) (by simp [Value.category]) ?_
  refine j_aload_n dX6_kind_0 rfl rfl ?_
  refine j_iload_n dX6_kind_1 rfl rfl ?_
  refine j_callV (m_one h0 hn p) dX6_kind_2 rfl mv_X6_148 mH_o rfl ⟨(Nat.le_of_ble_eq_true rfl), (Nat.le_of_ble_eq_true rfl)⟩ ⟨(Nat.le_of_ble_eq_true rfl), (Nat.le_of_ble_eq_true rfl)⟩ (Nat.le_of_ble_eq_true rfl) ?_
  refine j_top (nI 0) (if_neg h) ?_
  refine j_if_eq 16 dX6_kind_5 (by decide) (fun _ => ?_) (fun h => absurd rfl h)
  refine j_ldc (-1000001) dX6_kind_16 kc_X6_64 ?_
  exact j_iret rfl dX6_kind_18 rfl rfl (Nat.le_of_ble_eq_true rfl) (Nat.le_of_ble_eq_true rfl)
theorem m_undo_state : Ct G yX6_undo cX6_undo 2 (some .int) 4 0 0 z (mH σ a0 a1 a2 a3 a4 a5 a6 a7 a8 a9 a10 a11 (nI 0) i1 i2 i3 i4 i5 i6 i7 i8 i9 i10 i11) [.ref 171] (some (.int (-1000002))) z (mH σ a0 a1 a2 a3 a4 a5 a6 a7 a8 a9 a10 a11 (nI 0) i1 i2 i3 i4 i5 i6 i7 i8 i9 i10 i11) := by
  refine Ct.ofJ RX6 rfl [some (.ref 171), none] rfl (by decide) (by simp [Value.category]) ?_
  refine j_aload_n dX6_undo_0 rfl rfl ?_
  refine j_getf dX6_undo_1 6 5 rfl (Nat.le_of_ble_eq_true rfl) fl_X6_145 in_6 mH_o rfl ?_
  refine j_top (nI 0) rfl ?_
  refine j_if_ne 10 dX6_undo_4 (by decide) (fun h => absurd rfl h) (fun _ => ?_)
  refine j_ldc (-1000002) dX6_undo_7 kc_X6_163 ?_
  exact j_iret rfl dX6_undo_9 rfl rfl (Nat.le_of_ble_eq_true rfl) (Nat.le_of_ble_eq_true rfl)
theorem m_undo_ok {kp : Nat} (hk : 1 ≤ kp) (hk2 : kp ≤ 24) (T : Nat → Int32) (hT : ∀ j, j < 96 → a4 (96 * (kp - 1) + j) = T j) : Ct G yX6_undo cX6_undo 2 (some .int) 4 0 0 z (mH σ a0 a1 a2 a3 a4 a5 a6 a7 a8 a9 a10 a11 (nI kp) i1 i2 i3 i4 i5 i6 i7 i8 i9 i10 i11) [.ref 171] (some (.int (nI (kp - 1)))) z (mH σ T a1 a2 a3 a4 a5 a6 a7 a8 a9 a10 a11 (nI (kp - 1)) i1 i2 i3 i4 i5 i6 i7 i8 i9 i10 i11) := by
  refine Ct.ofJ RX6 rfl [some (.ref 171), none] rfl (by decide) (by simp [Value.category]) ?_
  refine j_aload_n dX6_undo_0 rfl rfl ?_
  refine j_getf dX6_undo_1 6 5 rfl (Nat.le_of_ble_eq_true rfl) fl_X6_145 in_6 mH_o rfl ?_
  refine j_if_ne 10 dX6_undo_4 (by decide) (fun b4 => ?_) (fun b4 => by exact absurd b4 (nI_ne0 (by omega) (by omega)))
  refine j_aload_n dX6_undo_10 rfl rfl ?_
  refine j_dup dX6_undo_11 rfl ?_
  refine j_getf dX6_undo_12 6 5 rfl (Nat.le_of_ble_eq_true rfl) fl_X6_145 in_6 mH_o rfl ?_
  refine j_iconst (nI 1) dX6_undo_15 rfl ?_
  refine j_isubN dX6_undo_16 (by omega) ?_
  refine j_putf dX6_undo_17 6 5 rfl (Nat.le_of_ble_eq_true rfl) fl_X6_145 in_6 tyX6 tyX6_ok nmX6 rfl rfl mH_o (Nat.le_of_ble_eq_true rfl) _ mH_p0 ?_
  refine j_iconst (nI 0) dX6_undo_20 rfl ?_
  refine j_istore_n dX6_undo_21 rfl (Nat.le_of_ble_eq_true rfl) rfl ?_
  suffices H : ∀ (kk i : Nat), i ≤ 96 → 96 < i + kk → J G RX6 cX6_undo 2 (some .int) (TQ G 4 0 0 (some (.int (nI (kp - 1)))) z (mH σ T a1 a2 a3 a4 a5 a6 a7 a8 a9 a10 a11 (nI (kp - 1)) i1 i2 i3 i4 i5 i6 i7 i8 i9 i10 i11)) z (mH σ (va_cpy a4 a0 (96 * (kp - 1)) 0 i) a1 a2 a3 a4 a5 a6 a7 a8 a9 a10 a11 (nI (kp - 1)) i1 i2 i3 i4 i5 i6 i7 i8 i9 i10 i11) 0 0 22 [some (.ref 171), some (.int (nI i))] [] from (by have := H 97 0 (by omega) (by omega); rw [cpy_0] at this; exact this)
  intro kk
  induction kk with
  | zero => intro i h1 h2; exact absurd h2 (by omega)
  | succ kk ih =>
    intro i h1 h2
    by_cases hi : i < 96
    · refine j_iload_n dX6_undo_22 rfl rfl ?_
      refine j_bipush (nI 96) dX6_undo_23 rfl ?_
      refine j_icmp_geN 54 dX6_undo_25 (by decide) (by omega) (by omega) (fun b25 => by exfalso; omega) (fun b25 => ?_)
      refine j_aload_n dX6_undo_28 rfl rfl ?_
      refine j_getf dX6_undo_29 6 0 rfl (Nat.le_of_ble_eq_true rfl) fl_X6_7 in_6 mH_o rfl ?_
      refine j_iload_n dX6_undo_32 rfl rfl ?_
      refine j_aload_n dX6_undo_33 rfl rfl ?_
      refine j_getf dX6_undo_34 6 4 rfl (Nat.le_of_ble_eq_true rfl) fl_X6_23 in_6 mH_o rfl ?_
      refine j_bipush (nI 96) dX6_undo_37 rfl ?_
      refine j_aload_n dX6_undo_39 rfl rfl ?_
      refine j_getf dX6_undo_40 6 5 rfl (Nat.le_of_ble_eq_true rfl) fl_X6_145 in_6 mH_o rfl ?_
      first | refine j_imulN dX6_undo_43 ?_ | refine j_imul dX6_undo_43 ?_
      refine j_iload_n dX6_undo_44 rfl rfl ?_
      first | refine j_iaddN dX6_undo_45 ?_ | refine j_iadd dX6_undo_45 ?_
      refine j_iald dX6_undo_46 mH_a4 rfl (by omega) (by decide) ?_
      refine j_iast dX6_undo_47 mH_a0 rfl (by omega) (by decide) _ (show _ = (mH σ (va_cpy a4 a0 (96 * (kp - 1)) 0 (i + 1)) a1 a2 a3 a4 a5 a6 a7 a8 a9 a10 a11 (nI (kp - 1)) i1 i2 i3 i4 i5 i6 i7 i8 i9 i10 i11) by rw [← cpy_s, Nat.zero_add]; exact mH_s0) ?_
      first | refine j_iincN dX6_undo_48 rfl (Nat.le_of_ble_eq_true rfl) rfl ?_ | refine j_iinc _ dX6_undo_48 rfl rfl (Nat.le_of_ble_eq_true rfl) rfl ?_
      refine j_goto 22 dX6_undo_51 (by decide) ?_
      exact ih (i + 1) (by omega) (by omega)
    · obtain rfl : i = 96 := by omega
      refine j_arr T mH_a0 (fun j hj => by rw [pk_cpy_in (by omega) (by omega), Nat.sub_zero]; exact hT j hj) _ mH_s0 ?_
      refine j_iload_n dX6_undo_22 rfl rfl ?_
      refine j_bipush (nI 96) dX6_undo_23 rfl ?_
      refine j_icmp_geN 54 dX6_undo_25 (by decide) (by omega) (by omega) (fun b25 => ?_) (fun b25 => by exfalso; omega)
      refine j_aload_n dX6_undo_54 rfl rfl ?_
      refine j_getf dX6_undo_55 6 5 rfl (Nat.le_of_ble_eq_true rfl) fl_X6_145 in_6 mH_o rfl ?_
      exact j_iret rfl dX6_undo_58 rfl rfl (Nat.le_of_ble_eq_true rfl) (Nat.le_of_ble_eq_true rfl)
theorem m_image_bad (k : Int32) (h : k < 0 ∨ ¬ k < nI 2) : Ct G yX6_image cX6_image 3 (some .int) 2 0 0 z (mH σ a0 a1 a2 a3 a4 a5 a6 a7 a8 a9 a10 a11 i0 i1 i2 i3 i4 i5 i6 i7 i8 i9 i10 i11) [.ref 171, .int k] (some (.int (-1000001))) z (mH σ a0 a1 a2 a3 a4 a5 a6 a7 a8 a9 a10 a11 i0 i1 i2 i3 i4 i5 i6 i7 i8 i9 i10 i11) := by
  refine Ct.ofJ RX6 rfl [some (.ref 171), some (.int k), none] rfl (by decide) (by simp [Value.category]) ?_
  refine j_iload_n dX6_image_0 rfl rfl ?_
  refine j_i2l dX6_image_1 ?_
  refine j_lconst (0) dX6_image_2 rfl ?_
  refine j_lconst (1) dX6_image_3 rfl ?_
  refine j_callS (m_in3 k (nI 0) (nI 1) rfl rfl) dX6_image_4 rfl ms_X6_54 ⟨(Nat.le_of_ble_eq_true rfl), (Nat.le_of_ble_eq_true rfl)⟩ ⟨(Nat.le_of_ble_eq_true rfl), (Nat.le_of_ble_eq_true rfl)⟩ (Nat.le_of_ble_eq_true rfl) ?_
  refine j_if_ne 13 dX6_image_7 (by decide) (fun b7 => ?_) (fun b7 => ?_)
  · exact absurd h (fun q => q.elim (inI_ne b7).1 (fun w => w (Int32.lt_of_le_of_lt (inI_ne b7).2 (by decide))))
  · refine j_ldc (-1000001) dX6_image_10 kc_X6_64 ?_
    exact j_iret rfl dX6_image_12 rfl rfl (Nat.le_of_ble_eq_true rfl) (Nat.le_of_ble_eq_true rfl)
theorem m_image_state {k : Nat} (hk : k < 2) (h : a0 0 = nI 0) : Ct G yX6_image cX6_image 3 (some .int) 2 0 0 z (mH σ a0 a1 a2 a3 a4 a5 a6 a7 a8 a9 a10 a11 i0 i1 i2 i3 i4 i5 i6 i7 i8 i9 i10 i11) [.ref 171, .int (nI k)] (some (.int (-1000002))) z (mH σ a0 a1 a2 a3 a4 a5 a6 a7 a8 a9 a10 a11 i0 i1 i2 i3 i4 i5 i6 i7 i8 i9 i10 i11) := by
  refine Ct.ofJ RX6 rfl [some (.ref 171), some (.int (nI k)), none] rfl (by decide) (by simp [Value.category]) ?_
  refine j_iload_n dX6_image_0 rfl rfl ?_
  refine j_i2l dX6_image_1 ?_
  refine j_lconst (0) dX6_image_2 rfl ?_
  refine j_lconst (1) dX6_image_3 rfl ?_
  refine j_callS (m_in3 (nI k) (nI 0) (nI 1) rfl rfl) dX6_image_4 rfl ms_X6_54 ⟨(Nat.le_of_ble_eq_true rfl), (Nat.le_of_ble_eq_true rfl)⟩ ⟨(Nat.le_of_ble_eq_true rfl), (Nat.le_of_ble_eq_true rfl)⟩ (Nat.le_of_ble_eq_true rfl) ?_
  refine j_top (nI 1) (inI_N (by omega) (by omega) (by omega)) ?_
  refine j_if_ne 13 dX6_image_7 (by decide) (fun _ => ?_) (fun h => absurd h (by decide))
  refine j_aload_n dX6_image_13 rfl rfl ?_
  refine j_getf dX6_image_14 6 0 rfl (Nat.le_of_ble_eq_true rfl) fl_X6_7 in_6 mH_o rfl ?_
  refine j_iconst (nI 0) dX6_image_17 rfl ?_
  refine j_iald dX6_image_18 mH_a0 rfl (by omega) (by decide) ?_
  refine j_top (nI 0) h ?_
  refine j_if_ne 25 dX6_image_19 (by decide) (fun h => absurd rfl h) (fun _ => ?_)
  refine j_ldc (-1000002) dX6_image_22 kc_X6_163 ?_
  exact j_iret rfl dX6_image_24 rfl rfl (Nat.le_of_ble_eq_true rfl) (Nat.le_of_ble_eq_true rfl)
theorem m_image_ok {k : Nat} (hk : k < 2) (h : ¬ a0 0 = 0) : Ct G yX6_image cX6_image 3 (some .int) 2 0 0 z (mH σ a0 a1 a2 a3 a4 a5 a6 a7 a8 a9 a10 a11 i0 i1 i2 i3 i4 i5 i6 i7 i8 i9 i10 i11) [.ref 171, .int (nI k)] (some (.int (nI 1))) z (mH σ a0 a1 (va_cpy a0 a2 0 (96 * k) 96) (upd a3 k (nI 1)) a4 a5 a6 a7 a8 a9 a10 a11 i0 i1 i2 i3 i4 i5 i6 i7 i8 i9 i10 i11) := by
  refine Ct.ofJ RX6 rfl [some (.ref 171), some (.int (nI k)), none] rfl (by decide) (by simp [Value.category]) ?_
  refine j_iload_n dX6_image_0 rfl rfl ?_
  refine j_i2l dX6_image_1 ?_
  refine j_lconst (0) dX6_image_2 rfl ?_
  refine j_lconst (1) dX6_image_3 rfl ?_
  refine j_callS (m_in3 (nI k) (nI 0) (nI 1) rfl rfl) dX6_image_4 rfl ms_X6_54 ⟨(Nat.le_of_ble_eq_true rfl), (Nat.le_of_ble_eq_true rfl)⟩ ⟨(Nat.le_of_ble_eq_true rfl), (Nat.le_of_ble_eq_true rfl)⟩ (Nat.le_of_ble_eq_true rfl) ?_
  refine j_top (nI 1) (inI_N (by omega) (by omega) (by omega)) ?_
  refine j_if_ne 13 dX6_image_7 (by decide) (fun _ => ?_) (fun h => absurd h (by decide))
  refine j_aload_n dX6_image_13 rfl rfl ?_
  refine j_getf dX6_image_14 6 0 rfl (Nat.le_of_ble_eq_true rfl) fl_X6_7 in_6 mH_o rfl ?_
  refine j_iconst (nI 0) dX6_image_17 rfl ?_
  refine j_iald dX6_image_18 mH_a0 rfl (by omega) (by decide) ?_
  refine j_if_ne 25 dX6_image_19 (by decide) (fun b19 => ?_) (fun b19 => by exact absurd b19 h)
  refine j_iconst (nI 0) dX6_image_25 rfl ?_
  refine j_istore_n dX6_image_26 rfl (Nat.le_of_ble_eq_true rfl) rfl ?_
  suffices H : ∀ (kk i : Nat), i ≤ 96 → 96 < i + kk → J G RX6 cX6_image 3 (some .int) (TQ G 2 0 0 (some (.int (nI 1))) z (mH σ a0 a1 (va_cpy a0 a2 0 (96 * k) 96) (upd a3 k (nI 1)) a4 a5 a6 a7 a8 a9 a10 a11 i0 i1 i2 i3 i4 i5 i6 i7 i8 i9 i10 i11)) z (mH σ a0 a1 (va_cpy a0 a2 0 (96 * k) i) a3 a4 a5 a6 a7 a8 a9 a10 a11 i0 i1 i2 i3 i4 i5 i6 i7 i8 i9 i10 i11) 0 0 27 [some (.ref 171), some (.int (nI k)), some (.int (nI i))] [] from (by have := H 97 0 (by omega) (by omega); rw [cpy_0] at this; exact this)
  intro kk
  induction kk with
  | zero => intro i h1 h2; exact absurd h2 (by omega)
  | succ kk ih =>
    intro i h1 h2
    refine j_iload_n dX6_image_27 rfl rfl ?_
    refine j_bipush (nI 96) dX6_image_28 rfl ?_
    refine j_icmp_geN 56 dX6_image_30 (by decide) (by omega) (by omega) (fun b30 => ?_) (fun b30 => ?_)
    · obtain rfl : i = 96 := by omega
      refine j_aload_n dX6_image_56 rfl rfl ?_
      refine j_getf dX6_image_57 6 3 rfl (Nat.le_of_ble_eq_true rfl) fl_X6_19 in_6 mH_o rfl ?_
      refine j_iload_n dX6_image_60 rfl rfl ?_
      refine j_iconst (nI 1) dX6_image_61 rfl ?_
      refine j_zast dX6_image_62 mH_a3 rfl (by omega) (by decide) rfl _ mH_s3 ?_
      refine j_iconst (nI 1) dX6_image_63 rfl ?_
      exact j_iret rfl dX6_image_64 rfl rfl (Nat.le_of_ble_eq_true rfl) (Nat.le_of_ble_eq_true rfl)
    · refine j_aload_n dX6_image_33 rfl rfl ?_
      refine j_getf dX6_image_34 6 2 rfl (Nat.le_of_ble_eq_true rfl) fl_X6_16 in_6 mH_o rfl ?_
      refine j_bipush (nI 96) dX6_image_37 rfl ?_
      refine j_iload_n dX6_image_39 rfl rfl ?_
      first | refine j_imulN dX6_image_40 ?_ | refine j_imul dX6_image_40 ?_
      refine j_iload_n dX6_image_41 rfl rfl ?_
      first | refine j_iaddN dX6_image_42 ?_ | refine j_iadd dX6_image_42 ?_
      refine j_aload_n dX6_image_43 rfl rfl ?_
      refine j_getf dX6_image_44 6 0 rfl (Nat.le_of_ble_eq_true rfl) fl_X6_7 in_6 mH_o rfl ?_
      refine j_iload_n dX6_image_47 rfl rfl ?_
      refine j_iald dX6_image_48 mH_a0 rfl (by omega) (by decide) ?_
      refine j_iast dX6_image_49 mH_a2 rfl (by omega) (by decide) _ (show _ = (mH σ a0 a1 (va_cpy a0 a2 0 (96 * k) (i + 1)) a3 a4 a5 a6 a7 a8 a9 a10 a11 i0 i1 i2 i3 i4 i5 i6 i7 i8 i9 i10 i11) by rw [← cpy_s, Nat.zero_add]; exact mH_s2) ?_
      first | refine j_iincN dX6_image_50 rfl (Nat.le_of_ble_eq_true rfl) rfl ?_ | refine j_iinc _ dX6_image_50 rfl rfl (Nat.le_of_ble_eq_true rfl) rfl ?_
      refine j_goto 27 dX6_image_53 (by decide) ?_
      exact ih (i + 1) (by omega) (by omega)
theorem m_restore_bad (k : Int32) (h : k < 0 ∨ ¬ k < nI 2) : Ct G yX6_restore cX6_restore 3 (some .int) 2 0 0 z (mH σ a0 a1 a2 a3 a4 a5 a6 a7 a8 a9 a10 a11 i0 i1 i2 i3 i4 i5 i6 i7 i8 i9 i10 i11) [.ref 171, .int k] (some (.int (-1000001))) z (mH σ a0 a1 a2 a3 a4 a5 a6 a7 a8 a9 a10 a11 i0 i1 i2 i3 i4 i5 i6 i7 i8 i9 i10 i11) := by
  refine Ct.ofJ RX6 rfl [some (.ref 171), some (.int k), none] rfl (by decide) (by simp [Value.category]) ?_
  refine j_iload_n dX6_restore_0 rfl rfl ?_
  refine j_i2l dX6_restore_1 ?_
  refine j_lconst (0) dX6_restore_2 rfl ?_
  refine j_lconst (1) dX6_restore_3 rfl ?_
  refine j_callS (m_in3 k (nI 0) (nI 1) rfl rfl) dX6_restore_4 rfl ms_X6_54 ⟨(Nat.le_of_ble_eq_true rfl), (Nat.le_of_ble_eq_true rfl)⟩ ⟨(Nat.le_of_ble_eq_true rfl), (Nat.le_of_ble_eq_true rfl)⟩ (Nat.le_of_ble_eq_true rfl) ?_
  refine j_if_ne 13 dX6_restore_7 (by decide) (fun b7 => ?_) (fun b7 => ?_)
  · exact absurd h (fun q => q.elim (inI_ne b7).1 (fun w => w (Int32.lt_of_le_of_lt (inI_ne b7).2 (by decide))))
  · refine j_ldc (-1000001) dX6_restore_10 kc_X6_64 ?_
    exact j_iret rfl dX6_restore_12 rfl rfl (Nat.le_of_ble_eq_true rfl) (Nat.le_of_ble_eq_true rfl)
theorem m_restore_state {k : Nat} (hk : k < 2) (h : a3 k = nI 0) : Ct G yX6_restore cX6_restore 3 (some .int) 2 0 0 z (mH σ a0 a1 a2 a3 a4 a5 a6 a7 a8 a9 a10 a11 i0 i1 i2 i3 i4 i5 i6 i7 i8 i9 i10 i11) [.ref 171, .int (nI k)] (some (.int (-1000002))) z (mH σ a0 a1 a2 a3 a4 a5 a6 a7 a8 a9 a10 a11 i0 i1 i2 i3 i4 i5 i6 i7 i8 i9 i10 i11) := by
  refine Ct.ofJ RX6 rfl [some (.ref 171), some (.int (nI k)), none] rfl (by decide) (by simp [Value.category]) ?_
  refine j_iload_n dX6_restore_0 rfl rfl ?_
  refine j_i2l dX6_restore_1 ?_
  refine j_lconst (0) dX6_restore_2 rfl ?_
  refine j_lconst (1) dX6_restore_3 rfl ?_
  refine j_callS (m_in3 (nI k) (nI 0) (nI 1) rfl rfl) dX6_restore_4 rfl ms_X6_54 ⟨(Nat.le_of_ble_eq_true rfl), (Nat.le_of_ble_eq_true rfl)⟩ ⟨(Nat.le_of_ble_eq_true rfl), (Nat.le_of_ble_eq_true rfl)⟩ (Nat.le_of_ble_eq_true rfl) ?_
  refine j_top (nI 1) (inI_N (by omega) (by omega) (by omega)) ?_
  refine j_if_ne 13 dX6_restore_7 (by decide) (fun _ => ?_) (fun h => absurd h (by decide))
  refine j_aload_n dX6_restore_13 rfl rfl ?_
  refine j_getf dX6_restore_14 6 3 rfl (Nat.le_of_ble_eq_true rfl) fl_X6_19 in_6 mH_o rfl ?_
  refine j_iload_n dX6_restore_17 rfl rfl ?_
  refine j_zald dX6_restore_18 mH_a3 rfl (by omega) (by decide) ?_
  refine j_top (nI 0) h ?_
  refine j_if_ne 25 dX6_restore_19 (by decide) (fun h => absurd rfl h) (fun _ => ?_)
  refine j_ldc (-1000002) dX6_restore_22 kc_X6_163 ?_
  exact j_iret rfl dX6_restore_24 rfl rfl (Nat.le_of_ble_eq_true rfl) (Nat.le_of_ble_eq_true rfl)
theorem m_restore_ok {k : Nat} (hk : k < 2) (h : a3 k = nI 1) (T : Nat → Int32) (hT : ∀ j, j < 96 → a2 (96 * k + j) = T j) : Ct G yX6_restore cX6_restore 3 (some .int) 2 0 0 z (mH σ a0 a1 a2 a3 a4 a5 a6 a7 a8 a9 a10 a11 i0 i1 i2 i3 i4 i5 i6 i7 i8 i9 i10 i11) [.ref 171, .int (nI k)] (some (.int (nI 1))) z (mH σ T a1 a2 a3 a4 a5 a6 a7 a8 a9 a10 a11 (nI 0) i1 i2 i3 i4 i5 i6 i7 i8 i9 i10 i11) := by
  refine Ct.ofJ RX6 rfl [some (.ref 171), some (.int (nI k)), none] rfl (by decide) (by simp [Value.category]) ?_
  refine j_iload_n dX6_restore_0 rfl rfl ?_
  refine j_i2l dX6_restore_1 ?_
  refine j_lconst (0) dX6_restore_2 rfl ?_
  refine j_lconst (1) dX6_restore_3 rfl ?_
  refine j_callS (m_in3 (nI k) (nI 0) (nI 1) rfl rfl) dX6_restore_4 rfl ms_X6_54 ⟨(Nat.le_of_ble_eq_true rfl), (Nat.le_of_ble_eq_true rfl)⟩ ⟨(Nat.le_of_ble_eq_true rfl), (Nat.le_of_ble_eq_true rfl)⟩ (Nat.le_of_ble_eq_true rfl) ?_
  refine j_top (nI 1) (inI_N (by omega) (by omega) (by omega)) ?_
  refine j_if_ne 13 dX6_restore_7 (by decide) (fun _ => ?_) (fun h => absurd h (by decide))
  refine j_aload_n dX6_restore_13 rfl rfl ?_
  refine j_getf dX6_restore_14 6 3 rfl (Nat.le_of_ble_eq_true rfl) fl_X6_19 in_6 mH_o rfl ?_
  refine j_iload_n dX6_restore_17 rfl rfl ?_
  refine j_zald dX6_restore_18 mH_a3 rfl (by omega) (by decide) ?_
  refine j_top (nI 1) h ?_
  refine j_if_ne 25 dX6_restore_19 (by decide) (fun _ => ?_) (fun h => absurd h (by decide))
  refine j_iconst (nI 0) dX6_restore_25 rfl ?_
  refine j_istore_n dX6_restore_26 rfl (Nat.le_of_ble_eq_true rfl) rfl ?_
  suffices H : ∀ (kk i : Nat), i ≤ 96 → 96 < i + kk → J G RX6 cX6_restore 3 (some .int) (TQ G 2 0 0 (some (.int (nI 1))) z (mH σ T a1 a2 a3 a4 a5 a6 a7 a8 a9 a10 a11 (nI 0) i1 i2 i3 i4 i5 i6 i7 i8 i9 i10 i11)) z (mH σ (va_cpy a2 a0 (96 * k) 0 i) a1 a2 a3 a4 a5 a6 a7 a8 a9 a10 a11 i0 i1 i2 i3 i4 i5 i6 i7 i8 i9 i10 i11) 0 0 27 [some (.ref 171), some (.int (nI k)), some (.int (nI i))] [] from (by have := H 97 0 (by omega) (by omega); rw [cpy_0] at this; exact this)
  intro kk
  induction kk with
  | zero => intro i h1 h2; exact absurd h2 (by omega)
  | succ kk ih =>
    intro i h1 h2
    by_cases hi : i < 96
    · refine j_iload_n dX6_restore_27 rfl rfl ?_
      refine j_bipush (nI 96) dX6_restore_28 rfl ?_
      refine j_icmp_geN 56 dX6_restore_30 (by decide) (by omega) (by omega) (fun b30 => by exfalso; omega) (fun b30 => ?_)
      refine j_aload_n dX6_restore_33 rfl rfl ?_
      refine j_getf dX6_restore_34 6 0 rfl (Nat.le_of_ble_eq_true rfl) fl_X6_7 in_6 mH_o rfl ?_
      refine j_iload_n dX6_restore_37 rfl rfl ?_
      refine j_aload_n dX6_restore_38 rfl rfl ?_
      refine j_getf dX6_restore_39 6 2 rfl (Nat.le_of_ble_eq_true rfl) fl_X6_16 in_6 mH_o rfl ?_
      refine j_bipush (nI 96) dX6_restore_42 rfl ?_
      refine j_iload_n dX6_restore_44 rfl rfl ?_
      first | refine j_imulN dX6_restore_45 ?_ | refine j_imul dX6_restore_45 ?_
      refine j_iload_n dX6_restore_46 rfl rfl ?_
      first | refine j_iaddN dX6_restore_47 ?_ | refine j_iadd dX6_restore_47 ?_
      refine j_iald dX6_restore_48 mH_a2 rfl (by omega) (by decide) ?_
      refine j_iast dX6_restore_49 mH_a0 rfl (by omega) (by decide) _ (show _ = (mH σ (va_cpy a2 a0 (96 * k) 0 (i + 1)) a1 a2 a3 a4 a5 a6 a7 a8 a9 a10 a11 i0 i1 i2 i3 i4 i5 i6 i7 i8 i9 i10 i11) by rw [← cpy_s, Nat.zero_add]; exact mH_s0) ?_
      first | refine j_iincN dX6_restore_50 rfl (Nat.le_of_ble_eq_true rfl) rfl ?_ | refine j_iinc _ dX6_restore_50 rfl rfl (Nat.le_of_ble_eq_true rfl) rfl ?_
      refine j_goto 27 dX6_restore_53 (by decide) ?_
      exact ih (i + 1) (by omega) (by omega)
    · obtain rfl : i = 96 := by omega
      refine j_arr T mH_a0 (fun j hj => by rw [pk_cpy_in (by omega) (by omega), Nat.sub_zero]; exact hT j hj) _ mH_s0 ?_
      refine j_iload_n dX6_restore_27 rfl rfl ?_
      refine j_bipush (nI 96) dX6_restore_28 rfl ?_
      refine j_icmp_geN 56 dX6_restore_30 (by decide) (by omega) (by omega) (fun b30 => ?_) (fun b30 => by exfalso; omega)
      refine j_aload_n dX6_restore_56 rfl rfl ?_
      refine j_iconst (nI 0) dX6_restore_57 rfl ?_
      refine j_putf dX6_restore_58 6 5 rfl (Nat.le_of_ble_eq_true rfl) fl_X6_145 in_6 tyX6 tyX6_ok nmX6 rfl rfl mH_o (Nat.le_of_ble_eq_true rfl) _ mH_p0 ?_
      refine j_iconst (nI 1) dX6_restore_61 rfl ?_
      exact j_iret rfl dX6_restore_62 rfl rfl (Nat.le_of_ble_eq_true rfl) (Nat.le_of_ble_eq_true rfl)
theorem m_trace_none {tr : Nat} (ht : tr ≤ 16) (i : Int32) (h : i < 0 ∨ ¬ i < nI tr) : Ct G yX6_trace cX6_trace 2 (some .int) 2 0 0 z (mH σ a0 a1 a2 a3 a4 a5 a6 a7 a8 a9 a10 a11 i0 i1 i2 i3 i4 i5 i6 i7 i8 i9 i10 (nI tr)) [.ref 171, .int i] (some (.int (-1000000))) z (mH σ a0 a1 a2 a3 a4 a5 a6 a7 a8 a9 a10 a11 i0 i1 i2 i3 i4 i5 i6 i7 i8 i9 i10 (nI tr)) := by
  refine Ct.ofJ RX6 rfl [some (.ref 171), some (.int i)] rfl (by decide) (by simp [Value.category]) ?_
  refine j_iload_n dX6_trace_0 rfl rfl ?_
  refine j_i2l dX6_trace_1 ?_
  refine j_lconst (0) dX6_trace_2 rfl ?_
  refine j_aload_n dX6_trace_3 rfl rfl ?_
  refine j_getf dX6_trace_4 6 23 rfl (Nat.le_of_ble_eq_true rfl) fl_X6_210 in_6 mH_o rfl ?_
  refine j_iconst (nI 1) dX6_trace_7 rfl ?_
  refine j_isub dX6_trace_8 ?_
  refine j_i2l dX6_trace_9 ?_
  refine j_callS (m_in3 i (nI 0) (nI tr - nI 1) rfl rfl) dX6_trace_10 rfl ms_X6_54 ⟨(Nat.le_of_ble_eq_true rfl), (Nat.le_of_ble_eq_true rfl)⟩ ⟨(Nat.le_of_ble_eq_true rfl), (Nat.le_of_ble_eq_true rfl)⟩ (Nat.le_of_ble_eq_true rfl) ?_
  refine j_top (nI 0) ((inI_ix i (by omega)).2 (by unfold npI; rcases h with h | h; (rw [if_pos h]; decide); (by_cases h3 : i < 0; (rw [if_pos h3]; decide); (rw [if_neg h3, if_neg h]; decide)))) ?_
  refine j_if_eq 25 dX6_trace_13 (by decide) (fun _ => ?_) (fun h => absurd rfl h)
  refine j_ldc (-1000000) dX6_trace_25 kc_X6_204 ?_
  exact j_iret rfl dX6_trace_27 rfl rfl (Nat.le_of_ble_eq_true rfl) (Nat.le_of_ble_eq_true rfl)
theorem m_trace_ok {tr i : Nat} (ht : tr ≤ 16) (h : i < tr) : Ct G yX6_trace cX6_trace 2 (some .int) 2 0 0 z (mH σ a0 a1 a2 a3 a4 a5 a6 a7 a8 a9 a10 a11 i0 i1 i2 i3 i4 i5 i6 i7 i8 i9 i10 (nI tr)) [.ref 171, .int (nI i)] (some (.int (a11 i))) z (mH σ a0 a1 a2 a3 a4 a5 a6 a7 a8 a9 a10 a11 i0 i1 i2 i3 i4 i5 i6 i7 i8 i9 i10 (nI tr)) := by
  refine Ct.ofJ RX6 rfl [some (.ref 171), some (.int (nI i))] rfl (by decide) (by simp [Value.category]) ?_
  refine j_iload_n dX6_trace_0 rfl rfl ?_
  refine j_i2l dX6_trace_1 ?_
  refine j_lconst (0) dX6_trace_2 rfl ?_
  refine j_aload_n dX6_trace_3 rfl rfl ?_
  refine j_getf dX6_trace_4 6 23 rfl (Nat.le_of_ble_eq_true rfl) fl_X6_210 in_6 mH_o rfl ?_
  refine j_iconst (nI 1) dX6_trace_7 rfl ?_
  refine j_isub dX6_trace_8 ?_
  refine j_i2l dX6_trace_9 ?_
  refine j_callS (m_in3 (nI i) (nI 0) (nI tr - nI 1) rfl rfl) dX6_trace_10 rfl ms_X6_54 ⟨(Nat.le_of_ble_eq_true rfl), (Nat.le_of_ble_eq_true rfl)⟩ ⟨(Nat.le_of_ble_eq_true rfl), (Nat.le_of_ble_eq_true rfl)⟩ (Nat.le_of_ble_eq_true rfl) ?_
  refine j_top (nI 1) (by rw [pk_sub (by omega)]; exact inI_N (by omega) (by omega) (by omega)) ?_
  refine j_if_eq 25 dX6_trace_13 (by decide) (fun h => absurd h (by decide)) (fun _ => ?_)
  refine j_aload_n dX6_trace_16 rfl rfl ?_
  refine j_getf dX6_trace_17 6 22 rfl (Nat.le_of_ble_eq_true rfl) fl_X6_44 in_6 mH_o rfl ?_
  refine j_iload_n dX6_trace_20 rfl rfl ?_
  refine j_iald dX6_trace_21 mH_a11 rfl (by omega) (by decide) ?_
  refine j_goto 27 dX6_trace_22 (by decide) ?_
  exact j_iret rfl dX6_trace_27 rfl rfl (Nat.le_of_ble_eq_true rfl) (Nat.le_of_ble_eq_true rfl)
end M4
section M5
variable {G : GG} {z : Nat} {σ : AH} {a0 a1 a2 a3 a4 a5 a6 a7 a8 a9 a10 a11 : Nat → Int32} {i0 i1 i2 i3 i4 i5 i6 i7 i8 i9 i10 i11 : Int32} {d : TS} {kp : Nat}
theorem m_loan_state {p q : Nat} (hN : sN d ≤ 7) (hp : p < sN d) (hq : q < sN d) (hpq : p ≠ q) (n : Int32) (h1 : ¬ n < nI 1) (h2 : n ≤ nI 999) (h : sC d q < n) : Ct G yX6_loan cX6_loan 4 (some .int) 4 0 0 z (mH σ (encT d) a1 a2 a3 a4 a5 a6 a7 a8 a9 a10 a11 i0 i1 i2 i3 i4 i5 i6 i7 i8 i9 i10 i11) [.ref 171, .int (nI p), .int (nI q), .int n] (some (.int (-1000002))) z (mH σ (encT d) a1 a2 a3 a4 a5 a6 a7 a8 a9 a10 a11 i0 i1 i2 i3 i4 i5 i6 i7 i8 i9 i10 i11) := by
  refine Ct.ofJ RX6 rfl [some (.ref 171), some (.int (nI p)), some (.int (nI q)), some (.int n)] rfl (by decide) (by simp [Value.category]) ?_
  refine j_aload_n dX6_loan_0 rfl rfl ?_
  refine j_iload_n dX6_loan_1 rfl rfl ?_
  refine j_iload_n dX6_loan_2 rfl rfl ?_
  refine j_callV (m_two enc_n hN _ _) dX6_loan_3 rfl mv_X6_158 mH_o rfl ⟨(Nat.le_of_ble_eq_true rfl), (Nat.le_of_ble_eq_true rfl)⟩ ⟨(Nat.le_of_ble_eq_true rfl), (Nat.le_of_ble_eq_true rfl)⟩ (Nat.le_of_ble_eq_true rfl) ?_
  refine j_top (nI 1) (twoI_k hp hq hpq hN) ?_
  refine j_if_eq 21 dX6_loan_6 (by decide) (fun h => absurd h (by decide)) (fun _ => ?_)
  refine j_iload_n dX6_loan_9 rfl rfl ?_
  refine j_i2l dX6_loan_10 ?_
  refine j_lconst (1) dX6_loan_11 rfl ?_
  refine j_ldc2 (999) dX6_loan_12 kl_X6_161 ?_
  refine j_callS (m_in3 n (nI 1) (nI 999) rfl rfl) dX6_loan_15 rfl ms_X6_54 ⟨(Nat.le_of_ble_eq_true rfl), (Nat.le_of_ble_eq_true rfl)⟩ ⟨(Nat.le_of_ble_eq_true rfl), (Nat.le_of_ble_eq_true rfl)⟩ (Nat.le_of_ble_eq_true rfl) ?_
  refine j_top (nI 1) (inI_yes h1 h2) ?_
  refine j_if_ne 24 dX6_loan_18 (by decide) (fun _ => ?_) (fun h => absurd h (by decide))
  refine j_aload_n dX6_loan_24 rfl rfl ?_
  refine j_getf dX6_loan_25 6 0 rfl (Nat.le_of_ble_eq_true rfl) fl_X6_7 in_6 mH_o rfl ?_
  refine j_iconst (nI 4) dX6_loan_28 rfl ?_
  refine j_iload_n dX6_loan_29 rfl rfl ?_
  first | refine j_iaddN dX6_loan_30 ?_ | refine j_iadd dX6_loan_30 ?_
  refine j_iald dX6_loan_31 mH_a0 rfl (by omega) (by decide) ?_
  refine j_top (sC d q) (enc_c hN hq) ?_
  refine j_iload_n dX6_loan_32 rfl rfl ?_
  refine j_icmp_ge 39 dX6_loan_33 (by decide) (fun b33 => by exact absurd h (Int32.not_lt.mpr b33)) (fun b33 => ?_)
  refine j_ldc (-1000002) dX6_loan_36 kc_X6_163 ?_
  exact j_iret rfl dX6_loan_38 rfl rfl (Nat.le_of_ble_eq_true rfl) (Nat.le_of_ble_eq_true rfl)
theorem m_loan_full {p q : Nat} (hN : sN d ≤ 7) (hp : p < sN d) (hq : q < sN d) (hpq : p ≠ q) (n : Int32) (h1 : ¬ n < nI 1) (h2 : n ≤ nI 999) (h3 : ¬ sC d q < n) (h : ¬ sD d (p * 7 + q) + n ≤ 99999) : Ct G yX6_loan cX6_loan 4 (some .int) 4 0 0 z (mH σ (encT d) a1 a2 a3 a4 a5 a6 a7 a8 a9 a10 a11 i0 i1 i2 i3 i4 i5 i6 i7 i8 i9 i10 i11) [.ref 171, .int (nI p), .int (nI q), .int n] (some (.int (-1000003))) z (mH σ (encT d) a1 a2 a3 a4 a5 a6 a7 a8 a9 a10 a11 i0 i1 i2 i3 i4 i5 i6 i7 i8 i9 i10 i11) := by
  refine Ct.ofJ RX6 rfl [some (.ref 171), some (.int (nI p)), some (.int (nI q)), some (.int n)] rfl (by decide) (by simp [Value.category]) ?_
  refine j_aload_n dX6_loan_0 rfl rfl ?_
  refine j_iload_n dX6_loan_1 rfl rfl ?_
  refine j_iload_n dX6_loan_2 rfl rfl ?_
  refine j_callV (m_two enc_n hN _ _) dX6_loan_3 rfl mv_X6_158 mH_o rfl ⟨(Nat.le_of_ble_eq_true rfl), (Nat.le_of_ble_eq_true rfl)⟩ ⟨(Nat.le_of_ble_eq_true rfl), (Nat.le_of_ble_eq_true rfl)⟩ (Nat.le_of_ble_eq_true rfl) ?_
  refine j_top (nI 1) (twoI_k hp hq hpq hN) ?_
  refine j_if_eq 21 dX6_loan_6 (by decide) (fun h => absurd h (by decide)) (fun _ => ?_)
  refine j_iload_n dX6_loan_9 rfl rfl ?_
  refine j_i2l dX6_loan_10 ?_
  refine j_lconst (1) dX6_loan_11 rfl ?_
  refine j_ldc2 (999) dX6_loan_12 kl_X6_161 ?_
  refine j_callS (m_in3 n (nI 1) (nI 999) rfl rfl) dX6_loan_15 rfl ms_X6_54 ⟨(Nat.le_of_ble_eq_true rfl), (Nat.le_of_ble_eq_true rfl)⟩ ⟨(Nat.le_of_ble_eq_true rfl), (Nat.le_of_ble_eq_true rfl)⟩ (Nat.le_of_ble_eq_true rfl) ?_
  refine j_top (nI 1) (inI_yes h1 h2) ?_
  refine j_if_ne 24 dX6_loan_18 (by decide) (fun _ => ?_) (fun h => absurd h (by decide))
  refine j_aload_n dX6_loan_24 rfl rfl ?_
  refine j_getf dX6_loan_25 6 0 rfl (Nat.le_of_ble_eq_true rfl) fl_X6_7 in_6 mH_o rfl ?_
  refine j_iconst (nI 4) dX6_loan_28 rfl ?_
  refine j_iload_n dX6_loan_29 rfl rfl ?_
  first | refine j_iaddN dX6_loan_30 ?_ | refine j_iadd dX6_loan_30 ?_
  refine j_iald dX6_loan_31 mH_a0 rfl (by omega) (by decide) ?_
  refine j_top (sC d q) (enc_c hN hq) ?_
  refine j_iload_n dX6_loan_32 rfl rfl ?_
  refine j_icmp_ge 39 dX6_loan_33 (by decide) (fun b33 => ?_) (fun b33 => by exact absurd (Int32.not_le.mp b33) h3)
  refine j_aload_n dX6_loan_39 rfl rfl ?_
  refine j_getf dX6_loan_40 6 0 rfl (Nat.le_of_ble_eq_true rfl) fl_X6_7 in_6 mH_o rfl ?_
  refine j_bipush (nI 40) dX6_loan_43 rfl ?_
  refine j_bipush (nI 7) dX6_loan_45 rfl ?_
  refine j_iload_n dX6_loan_47 rfl rfl ?_
  first | refine j_imulN dX6_loan_48 ?_ | refine j_imul dX6_loan_48 ?_
  first | refine j_iaddN dX6_loan_49 ?_ | refine j_iadd dX6_loan_49 ?_
  refine j_iload_n dX6_loan_50 rfl rfl ?_
  first | refine j_iaddN dX6_loan_51 ?_ | refine j_iadd dX6_loan_51 ?_
  refine j_iald dX6_loan_52 mH_a0 rfl (by omega) (by decide) ?_
  refine j_top (sD d (p * 7 + q)) (enc_d hN hp hq) ?_
  refine j_iload_n dX6_loan_53 rfl rfl ?_
  refine j_iadd dX6_loan_54 ?_
  refine j_ldc (99999) dX6_loan_55 kc_X6_164 ?_
  refine j_icmp_le 63 dX6_loan_57 (by decide) (fun b57 => by exact absurd b57 h) (fun b57 => ?_)
  refine j_ldc (-1000003) dX6_loan_60 kc_X6_77 ?_
  exact j_iret rfl dX6_loan_62 rfl rfl (Nat.le_of_ble_eq_true rfl) (Nat.le_of_ble_eq_true rfl)
theorem m_loan_ok {p q : Nat} (hN : sN d ≤ 7) (hp : p < sN d) (hq : q < sN d) (hpq : p ≠ q) (hkp : kp ≤ 24) (n : Int32) (h1 : ¬ n < nI 1) (h2 : n ≤ nI 999) (h3 : ¬ sC d q < n) (h : sD d (p * 7 + q) + n ≤ 99999) : Ct G yX6_loan cX6_loan 4 (some .int) 4 0 0 z (mH σ (encT d) a1 a2 a3 a4 a5 a6 a7 a8 a9 a10 a11 (nI kp) i1 i2 i3 i4 i5 i6 i7 i8 i9 i10 i11) [.ref 171, .int (nI p), .int (nI q), .int n] (some (.int (sD d (p * 7 + q) + n))) z (mH σ (encT (pbC (sC d) q p n, sI d, sP d, upd (sD d) (p * 7 + q) (sD d (p * 7 + q) + n), sN d, sU d, sR d, sQ d, sH d, sF d)) a1 a2 a3 (remW kp a4 (encT d)) a5 a6 a7 a8 a9 a10 a11 (nI (min (kp + 1) 24)) i1 i2 i3 i4 i5 i6 i7 i8 i9 i10 i11) := by
  refine Ct.ofJ RX6 rfl [some (.ref 171), some (.int (nI p)), some (.int (nI q)), some (.int n)] rfl (by decide) (by simp [Value.category]) ?_
  refine j_aload_n dX6_loan_0 rfl rfl ?_
  refine j_iload_n dX6_loan_1 rfl rfl ?_
  refine j_iload_n dX6_loan_2 rfl rfl ?_
  refine j_callV (m_two enc_n hN _ _) dX6_loan_3 rfl mv_X6_158 mH_o rfl ⟨(Nat.le_of_ble_eq_true rfl), (Nat.le_of_ble_eq_true rfl)⟩ ⟨(Nat.le_of_ble_eq_true rfl), (Nat.le_of_ble_eq_true rfl)⟩ (Nat.le_of_ble_eq_true rfl) ?_
  refine j_top (nI 1) (twoI_k hp hq hpq hN) ?_
  refine j_if_eq 21 dX6_loan_6 (by decide) (fun h => absurd h (by decide)) (fun _ => ?_)
  refine j_iload_n dX6_loan_9 rfl rfl ?_
  refine j_i2l dX6_loan_10 ?_
  refine j_lconst (1) dX6_loan_11 rfl ?_
  refine j_ldc2 (999) dX6_loan_12 kl_X6_161 ?_
  refine j_callS (m_in3 n (nI 1) (nI 999) rfl rfl) dX6_loan_15 rfl ms_X6_54 ⟨(Nat.le_of_ble_eq_true rfl), (Nat.le_of_ble_eq_true rfl)⟩ ⟨(Nat.le_of_ble_eq_true rfl), (Nat.le_of_ble_eq_true rfl)⟩ (Nat.le_of_ble_eq_true rfl) ?_
  refine j_top (nI 1) (inI_yes h1 h2) ?_
  refine j_if_ne 24 dX6_loan_18 (by decide) (fun _ => ?_) (fun h => absurd h (by decide))
  refine j_aload_n dX6_loan_24 rfl rfl ?_
  refine j_getf dX6_loan_25 6 0 rfl (Nat.le_of_ble_eq_true rfl) fl_X6_7 in_6 mH_o rfl ?_
  refine j_iconst (nI 4) dX6_loan_28 rfl ?_
  refine j_iload_n dX6_loan_29 rfl rfl ?_
  first | refine j_iaddN dX6_loan_30 ?_ | refine j_iadd dX6_loan_30 ?_
  refine j_iald dX6_loan_31 mH_a0 rfl (by omega) (by decide) ?_
  refine j_top (sC d q) (enc_c hN hq) ?_
  refine j_iload_n dX6_loan_32 rfl rfl ?_
  refine j_icmp_ge 39 dX6_loan_33 (by decide) (fun b33 => ?_) (fun b33 => by exact absurd (Int32.not_le.mp b33) h3)
  refine j_aload_n dX6_loan_39 rfl rfl ?_
  refine j_getf dX6_loan_40 6 0 rfl (Nat.le_of_ble_eq_true rfl) fl_X6_7 in_6 mH_o rfl ?_
  refine j_bipush (nI 40) dX6_loan_43 rfl ?_
  refine j_bipush (nI 7) dX6_loan_45 rfl ?_
  refine j_iload_n dX6_loan_47 rfl rfl ?_
  first | refine j_imulN dX6_loan_48 ?_ | refine j_imul dX6_loan_48 ?_
  first | refine j_iaddN dX6_loan_49 ?_ | refine j_iadd dX6_loan_49 ?_
  refine j_iload_n dX6_loan_50 rfl rfl ?_
  first | refine j_iaddN dX6_loan_51 ?_ | refine j_iadd dX6_loan_51 ?_
  refine j_iald dX6_loan_52 mH_a0 rfl (by omega) (by decide) ?_
  refine j_top (sD d (p * 7 + q)) (enc_d hN hp hq) ?_
  refine j_iload_n dX6_loan_53 rfl rfl ?_
  refine j_iadd dX6_loan_54 ?_
  refine j_ldc (99999) dX6_loan_55 kc_X6_164 ?_
  refine j_icmp_le 63 dX6_loan_57 (by decide) (fun b57 => ?_) (fun b57 => by exact absurd h b57)
  refine j_aload_n dX6_loan_63 rfl rfl ?_
  refine j_callV (m_remembers hkp) dX6_loan_64 rfl mv_X6_165 mH_o rfl ⟨(Nat.le_of_ble_eq_true rfl), (Nat.le_of_ble_eq_true rfl)⟩ ⟨(Nat.le_of_ble_eq_true rfl), (Nat.le_of_ble_eq_true rfl)⟩ (Nat.le_of_ble_eq_true rfl) ?_
  refine j_aload_n dX6_loan_67 rfl rfl ?_
  refine j_getf dX6_loan_68 6 0 rfl (Nat.le_of_ble_eq_true rfl) fl_X6_7 in_6 mH_o rfl ?_
  refine j_iconst (nI 4) dX6_loan_71 rfl ?_
  refine j_iload_n dX6_loan_72 rfl rfl ?_
  first | refine j_iaddN dX6_loan_73 ?_ | refine j_iadd dX6_loan_73 ?_
  refine j_dup2 dX6_loan_74 rfl rfl ?_
  refine j_iald dX6_loan_75 mH_a0 rfl (by omega) (by decide) ?_
  refine j_top (sC d q) (enc_c hN hq) ?_
  refine j_iload_n dX6_loan_76 rfl rfl ?_
  refine j_isub dX6_loan_77 ?_
  refine j_iast dX6_loan_78 mH_a0 rfl (by omega) (by decide) _ (mH_t0 (enc_wC hN hq)) ?_
  refine j_aload_n dX6_loan_79 rfl rfl ?_
  refine j_getf dX6_loan_80 6 0 rfl (Nat.le_of_ble_eq_true rfl) fl_X6_7 in_6 mH_o rfl ?_
  refine j_iconst (nI 4) dX6_loan_83 rfl ?_
  refine j_iload_n dX6_loan_84 rfl rfl ?_
  first | refine j_iaddN dX6_loan_85 ?_ | refine j_iadd dX6_loan_85 ?_
  refine j_dup2 dX6_loan_86 rfl rfl ?_
  refine j_iald dX6_loan_87 mH_a0 rfl (by omega) (by decide) ?_
  refine j_top _ (enc_c (d := wC d _) hN hp) ?_
  refine j_iload_n dX6_loan_88 rfl rfl ?_
  refine j_iadd dX6_loan_89 ?_
  refine j_iast dX6_loan_90 mH_a0 rfl (by omega) (by decide) _ (mH_t0 (enc_wC (d := wC d _) hN hp)) ?_
  refine j_aload_n dX6_loan_91 rfl rfl ?_
  refine j_getf dX6_loan_92 6 0 rfl (Nat.le_of_ble_eq_true rfl) fl_X6_7 in_6 mH_o rfl ?_
  refine j_bipush (nI 40) dX6_loan_95 rfl ?_
  refine j_bipush (nI 7) dX6_loan_97 rfl ?_
  refine j_iload_n dX6_loan_99 rfl rfl ?_
  first | refine j_imulN dX6_loan_100 ?_ | refine j_imul dX6_loan_100 ?_
  first | refine j_iaddN dX6_loan_101 ?_ | refine j_iadd dX6_loan_101 ?_
  refine j_iload_n dX6_loan_102 rfl rfl ?_
  first | refine j_iaddN dX6_loan_103 ?_ | refine j_iadd dX6_loan_103 ?_
  refine j_dup2 dX6_loan_104 rfl rfl ?_
  refine j_iald dX6_loan_105 mH_a0 rfl (by omega) (by decide) ?_
  refine j_top (sD d (p * 7 + q)) (enc_d (d := wC d _) hN hp hq) ?_
  refine j_iload_n dX6_loan_106 rfl rfl ?_
  refine j_iadd dX6_loan_107 ?_
  refine j_iast dX6_loan_108 mH_a0 rfl (by omega) (by decide) _ (mH_t0 (enc_wD (d := wC d _) hN hp hq)) ?_
  refine j_aload_n dX6_loan_109 rfl rfl ?_
  refine j_getf dX6_loan_110 6 0 rfl (Nat.le_of_ble_eq_true rfl) fl_X6_7 in_6 mH_o rfl ?_
  refine j_bipush (nI 40) dX6_loan_113 rfl ?_
  refine j_bipush (nI 7) dX6_loan_115 rfl ?_
  refine j_iload_n dX6_loan_117 rfl rfl ?_
  first | refine j_imulN dX6_loan_118 ?_ | refine j_imul dX6_loan_118 ?_
  first | refine j_iaddN dX6_loan_119 ?_ | refine j_iadd dX6_loan_119 ?_
  refine j_iload_n dX6_loan_120 rfl rfl ?_
  first | refine j_iaddN dX6_loan_121 ?_ | refine j_iadd dX6_loan_121 ?_
  refine j_iald dX6_loan_122 mH_a0 rfl (by omega) (by decide) ?_
  refine j_top _ (enc_d (d := (pbC (sC d) q p n, sI d, sP d, upd (sD d) (p * 7 + q) (sD d (p * 7 + q) + n), sN d, sU d, sR d, sQ d, sH d, sF d)) hN hp hq) ?_
  refine j_top (sD d (p * 7 + q) + n) pk_us ?_
  exact j_iret rfl dX6_loan_123 rfl rfl (Nat.le_of_ble_eq_true rfl) (Nat.le_of_ble_eq_true rfl)
theorem m_pay_state {p q : Nat} (hN : sN d ≤ 7) (hp : p < sN d) (hq : q < sN d) (hpq : p ≠ q) (n : Int32) (h1 : ¬ n < nI 1) (h2 : n ≤ 99999) (h : sD d (p * 7 + q) < n ∨ sC d p < n) : Ct G yX6_pay cX6_pay 4 (some .int) 4 0 0 z (mH σ (encT d) a1 a2 a3 a4 a5 a6 a7 a8 a9 a10 a11 i0 i1 i2 i3 i4 i5 i6 i7 i8 i9 i10 i11) [.ref 171, .int (nI p), .int (nI q), .int n] (some (.int (-1000002))) z (mH σ (encT d) a1 a2 a3 a4 a5 a6 a7 a8 a9 a10 a11 i0 i1 i2 i3 i4 i5 i6 i7 i8 i9 i10 i11) := by
  refine Ct.ofJ RX6 rfl [some (.ref 171), some (.int (nI p)), some (.int (nI q)), some (.int n)] rfl (by decide) (by simp [Value.category]) ?_
  refine j_aload_n dX6_pay_0 rfl rfl ?_
  refine j_iload_n dX6_pay_1 rfl rfl ?_
  refine j_iload_n dX6_pay_2 rfl rfl ?_
  refine j_callV (m_two enc_n hN _ _) dX6_pay_3 rfl mv_X6_158 mH_o rfl ⟨(Nat.le_of_ble_eq_true rfl), (Nat.le_of_ble_eq_true rfl)⟩ ⟨(Nat.le_of_ble_eq_true rfl), (Nat.le_of_ble_eq_true rfl)⟩ (Nat.le_of_ble_eq_true rfl) ?_
  refine j_top (nI 1) (twoI_k hp hq hpq hN) ?_
  refine j_if_eq 21 dX6_pay_6 (by decide) (fun h => absurd h (by decide)) (fun _ => ?_)
  refine j_iload_n dX6_pay_9 rfl rfl ?_
  refine j_i2l dX6_pay_10 ?_
  refine j_lconst (1) dX6_pay_11 rfl ?_
  refine j_ldc2 (99999) dX6_pay_12 kl_X6_168 ?_
  refine j_callS (m_in3 n (nI 1) 99999 rfl rfl) dX6_pay_15 rfl ms_X6_54 ⟨(Nat.le_of_ble_eq_true rfl), (Nat.le_of_ble_eq_true rfl)⟩ ⟨(Nat.le_of_ble_eq_true rfl), (Nat.le_of_ble_eq_true rfl)⟩ (Nat.le_of_ble_eq_true rfl) ?_
  refine j_top (nI 1) (inI_yes h1 h2) ?_
  refine j_if_ne 24 dX6_pay_18 (by decide) (fun _ => ?_) (fun h => absurd h (by decide))
  refine j_aload_n dX6_pay_24 rfl rfl ?_
  refine j_getf dX6_pay_25 6 0 rfl (Nat.le_of_ble_eq_true rfl) fl_X6_7 in_6 mH_o rfl ?_
  refine j_bipush (nI 40) dX6_pay_28 rfl ?_
  refine j_bipush (nI 7) dX6_pay_30 rfl ?_
  refine j_iload_n dX6_pay_32 rfl rfl ?_
  first | refine j_imulN dX6_pay_33 ?_ | refine j_imul dX6_pay_33 ?_
  first | refine j_iaddN dX6_pay_34 ?_ | refine j_iadd dX6_pay_34 ?_
  refine j_iload_n dX6_pay_35 rfl rfl ?_
  first | refine j_iaddN dX6_pay_36 ?_ | refine j_iadd dX6_pay_36 ?_
  refine j_iald dX6_pay_37 mH_a0 rfl (by omega) (by decide) ?_
  refine j_top (sD d (p * 7 + q)) (enc_d hN hp hq) ?_
  refine j_iload_n dX6_pay_38 rfl rfl ?_
  refine j_icmp_lt 54 dX6_pay_39 (by decide) (fun b39 => ?_) (fun b39 => ?_)
  · refine j_ldc (-1000002) dX6_pay_54 kc_X6_163 ?_
    exact j_iret rfl dX6_pay_56 rfl rfl (Nat.le_of_ble_eq_true rfl) (Nat.le_of_ble_eq_true rfl)
  · refine j_aload_n dX6_pay_42 rfl rfl ?_
    refine j_getf dX6_pay_43 6 0 rfl (Nat.le_of_ble_eq_true rfl) fl_X6_7 in_6 mH_o rfl ?_
    refine j_iconst (nI 4) dX6_pay_46 rfl ?_
    refine j_iload_n dX6_pay_47 rfl rfl ?_
    first | refine j_iaddN dX6_pay_48 ?_ | refine j_iadd dX6_pay_48 ?_
    refine j_iald dX6_pay_49 mH_a0 rfl (by omega) (by decide) ?_
    refine j_top (sC d p) (enc_c hN hp) ?_
    refine j_iload_n dX6_pay_50 rfl rfl ?_
    refine j_icmp_ge 57 dX6_pay_51 (by decide) (fun b51 => ?_) (fun b51 => ?_)
    · exact absurd h (fun w => w.elim b39 (fun u => absurd u (Int32.not_lt.mpr b51)))
    · refine j_ldc (-1000002) dX6_pay_54 kc_X6_163 ?_
      exact j_iret rfl dX6_pay_56 rfl rfl (Nat.le_of_ble_eq_true rfl) (Nat.le_of_ble_eq_true rfl)
theorem m_pay_ok {p q : Nat} (hN : sN d ≤ 7) (hp : p < sN d) (hq : q < sN d) (hpq : p ≠ q) (hkp : kp ≤ 24) (n : Int32) (h1 : ¬ n < nI 1) (h2 : n ≤ 99999) (h3 : ¬ sD d (p * 7 + q) < n) (h4 : ¬ sC d p < n) : Ct G yX6_pay cX6_pay 4 (some .int) 4 0 0 z (mH σ (encT d) a1 a2 a3 a4 a5 a6 a7 a8 a9 a10 a11 (nI kp) i1 i2 i3 i4 i5 i6 i7 i8 i9 i10 i11) [.ref 171, .int (nI p), .int (nI q), .int n] (some (.int (sD d (p * 7 + q) + -n))) z (mH σ (encT (pbC (sC d) p q n, sI d, sP d, upd (sD d) (p * 7 + q) (sD d (p * 7 + q) + -n), sN d, sU d, sR d, sQ d, sH d, sF d)) a1 a2 a3 (remW kp a4 (encT d)) a5 a6 a7 a8 a9 a10 a11 (nI (min (kp + 1) 24)) i1 i2 i3 i4 i5 i6 i7 i8 i9 i10 i11) := by
  refine Ct.ofJ RX6 rfl [some (.ref 171), some (.int (nI p)), some (.int (nI q)), some (.int n)] rfl (by decide) (by simp [Value.category]) ?_
  refine j_aload_n dX6_pay_0 rfl rfl ?_
  refine j_iload_n dX6_pay_1 rfl rfl ?_
  refine j_iload_n dX6_pay_2 rfl rfl ?_
  refine j_callV (m_two enc_n hN _ _) dX6_pay_3 rfl mv_X6_158 mH_o rfl ⟨(Nat.le_of_ble_eq_true rfl), (Nat.le_of_ble_eq_true rfl)⟩ ⟨(Nat.le_of_ble_eq_true rfl), (Nat.le_of_ble_eq_true rfl)⟩ (Nat.le_of_ble_eq_true rfl) ?_
  refine j_top (nI 1) (twoI_k hp hq hpq hN) ?_
  refine j_if_eq 21 dX6_pay_6 (by decide) (fun h => absurd h (by decide)) (fun _ => ?_)
  refine j_iload_n dX6_pay_9 rfl rfl ?_
  refine j_i2l dX6_pay_10 ?_
  refine j_lconst (1) dX6_pay_11 rfl ?_
  refine j_ldc2 (99999) dX6_pay_12 kl_X6_168 ?_
  refine j_callS (m_in3 n (nI 1) 99999 rfl rfl) dX6_pay_15 rfl ms_X6_54 ⟨(Nat.le_of_ble_eq_true rfl), (Nat.le_of_ble_eq_true rfl)⟩ ⟨(Nat.le_of_ble_eq_true rfl), (Nat.le_of_ble_eq_true rfl)⟩ (Nat.le_of_ble_eq_true rfl) ?_
  refine j_top (nI 1) (inI_yes h1 h2) ?_
  refine j_if_ne 24 dX6_pay_18 (by decide) (fun _ => ?_) (fun h => absurd h (by decide))
  refine j_aload_n dX6_pay_24 rfl rfl ?_
  refine j_getf dX6_pay_25 6 0 rfl (Nat.le_of_ble_eq_true rfl) fl_X6_7 in_6 mH_o rfl ?_
  refine j_bipush (nI 40) dX6_pay_28 rfl ?_
  refine j_bipush (nI 7) dX6_pay_30 rfl ?_
  refine j_iload_n dX6_pay_32 rfl rfl ?_
  first | refine j_imulN dX6_pay_33 ?_ | refine j_imul dX6_pay_33 ?_
  first | refine j_iaddN dX6_pay_34 ?_ | refine j_iadd dX6_pay_34 ?_
  refine j_iload_n dX6_pay_35 rfl rfl ?_
  first | refine j_iaddN dX6_pay_36 ?_ | refine j_iadd dX6_pay_36 ?_
  refine j_iald dX6_pay_37 mH_a0 rfl (by omega) (by decide) ?_
  refine j_top (sD d (p * 7 + q)) (enc_d hN hp hq) ?_
  refine j_iload_n dX6_pay_38 rfl rfl ?_
  refine j_icmp_lt 54 dX6_pay_39 (by decide) (fun b39 => by exact absurd b39 h3) (fun b39 => ?_)
  refine j_aload_n dX6_pay_42 rfl rfl ?_
  refine j_getf dX6_pay_43 6 0 rfl (Nat.le_of_ble_eq_true rfl) fl_X6_7 in_6 mH_o rfl ?_
  refine j_iconst (nI 4) dX6_pay_46 rfl ?_
  refine j_iload_n dX6_pay_47 rfl rfl ?_
  first | refine j_iaddN dX6_pay_48 ?_ | refine j_iadd dX6_pay_48 ?_
  refine j_iald dX6_pay_49 mH_a0 rfl (by omega) (by decide) ?_
  refine j_top (sC d p) (enc_c hN hp) ?_
  refine j_iload_n dX6_pay_50 rfl rfl ?_
  refine j_icmp_ge 57 dX6_pay_51 (by decide) (fun b51 => ?_) (fun b51 => by exact absurd (Int32.not_le.mp b51) h4)
  refine j_aload_n dX6_pay_57 rfl rfl ?_
  refine j_callV (m_remembers hkp) dX6_pay_58 rfl mv_X6_165 mH_o rfl ⟨(Nat.le_of_ble_eq_true rfl), (Nat.le_of_ble_eq_true rfl)⟩ ⟨(Nat.le_of_ble_eq_true rfl), (Nat.le_of_ble_eq_true rfl)⟩ (Nat.le_of_ble_eq_true rfl) ?_
  refine j_aload_n dX6_pay_61 rfl rfl ?_
  refine j_getf dX6_pay_62 6 0 rfl (Nat.le_of_ble_eq_true rfl) fl_X6_7 in_6 mH_o rfl ?_
  refine j_iconst (nI 4) dX6_pay_65 rfl ?_
  refine j_iload_n dX6_pay_66 rfl rfl ?_
  first | refine j_iaddN dX6_pay_67 ?_ | refine j_iadd dX6_pay_67 ?_
  refine j_dup2 dX6_pay_68 rfl rfl ?_
  refine j_iald dX6_pay_69 mH_a0 rfl (by omega) (by decide) ?_
  refine j_top (sC d p) (enc_c hN hp) ?_
  refine j_iload_n dX6_pay_70 rfl rfl ?_
  refine j_isub dX6_pay_71 ?_
  refine j_iast dX6_pay_72 mH_a0 rfl (by omega) (by decide) _ (mH_t0 (enc_wC hN hp)) ?_
  refine j_aload_n dX6_pay_73 rfl rfl ?_
  refine j_getf dX6_pay_74 6 0 rfl (Nat.le_of_ble_eq_true rfl) fl_X6_7 in_6 mH_o rfl ?_
  refine j_iconst (nI 4) dX6_pay_77 rfl ?_
  refine j_iload_n dX6_pay_78 rfl rfl ?_
  first | refine j_iaddN dX6_pay_79 ?_ | refine j_iadd dX6_pay_79 ?_
  refine j_dup2 dX6_pay_80 rfl rfl ?_
  refine j_iald dX6_pay_81 mH_a0 rfl (by omega) (by decide) ?_
  refine j_top _ (enc_c (d := wC d _) hN hq) ?_
  refine j_iload_n dX6_pay_82 rfl rfl ?_
  refine j_iadd dX6_pay_83 ?_
  refine j_iast dX6_pay_84 mH_a0 rfl (by omega) (by decide) _ (mH_t0 (enc_wC (d := wC d _) hN hq)) ?_
  refine j_aload_n dX6_pay_85 rfl rfl ?_
  refine j_getf dX6_pay_86 6 0 rfl (Nat.le_of_ble_eq_true rfl) fl_X6_7 in_6 mH_o rfl ?_
  refine j_bipush (nI 40) dX6_pay_89 rfl ?_
  refine j_bipush (nI 7) dX6_pay_91 rfl ?_
  refine j_iload_n dX6_pay_93 rfl rfl ?_
  first | refine j_imulN dX6_pay_94 ?_ | refine j_imul dX6_pay_94 ?_
  first | refine j_iaddN dX6_pay_95 ?_ | refine j_iadd dX6_pay_95 ?_
  refine j_iload_n dX6_pay_96 rfl rfl ?_
  first | refine j_iaddN dX6_pay_97 ?_ | refine j_iadd dX6_pay_97 ?_
  refine j_dup2 dX6_pay_98 rfl rfl ?_
  refine j_iald dX6_pay_99 mH_a0 rfl (by omega) (by decide) ?_
  refine j_top (sD d (p * 7 + q)) (enc_d (d := wC d _) hN hp hq) ?_
  refine j_iload_n dX6_pay_100 rfl rfl ?_
  refine j_isub dX6_pay_101 ?_
  refine j_top (sD d (p * 7 + q) + -n) (Int32.sub_eq_add_neg _ _) ?_
  refine j_iast dX6_pay_102 mH_a0 rfl (by omega) (by decide) _ (mH_t0 (enc_wD (d := wC d _) hN hp hq)) ?_
  refine j_aload_n dX6_pay_103 rfl rfl ?_
  refine j_getf dX6_pay_104 6 0 rfl (Nat.le_of_ble_eq_true rfl) fl_X6_7 in_6 mH_o rfl ?_
  refine j_bipush (nI 40) dX6_pay_107 rfl ?_
  refine j_bipush (nI 7) dX6_pay_109 rfl ?_
  refine j_iload_n dX6_pay_111 rfl rfl ?_
  first | refine j_imulN dX6_pay_112 ?_ | refine j_imul dX6_pay_112 ?_
  first | refine j_iaddN dX6_pay_113 ?_ | refine j_iadd dX6_pay_113 ?_
  refine j_iload_n dX6_pay_114 rfl rfl ?_
  first | refine j_iaddN dX6_pay_115 ?_ | refine j_iadd dX6_pay_115 ?_
  refine j_iald dX6_pay_116 mH_a0 rfl (by omega) (by decide) ?_
  refine j_top _ (enc_d (d := (pbC (sC d) p q n, sI d, sP d, upd (sD d) (p * 7 + q) (sD d (p * 7 + q) + -n), sN d, sU d, sR d, sQ d, sH d, sF d)) hN hp hq) ?_
  refine j_top (sD d (p * 7 + q) + -n) pk_us ?_
  exact j_iret rfl dX6_pay_117 rfl rfl (Nat.le_of_ble_eq_true rfl) (Nat.le_of_ble_eq_true rfl)
theorem m_paint_ok {p : Nat} (hN : sN d ≤ 7) (hp : p < sN d) (hu : 1 ≤ sU d) (hu2 : sU d ≤ 20) (hP : okP d p) (hkp : kp ≤ 24) {v : Nat} (hv : v ≤ 9) : Ct G yX6_paint cX6_paint 4 (some .int) 5 0 0 z (mH σ (encT d) a1 a2 a3 a4 a5 a6 a7 a8 a9 a10 a11 (nI kp) i1 i2 i3 i4 i5 i6 i7 i8 i9 i10 i11) [.ref 171, .int (nI p), .int (nI v)] (some (.int (lks (sP d) (sD d) (sN d) (sU d) p))) z (mH σ (encT (sC d, sI d, upd (sP d) p (nI v), sD d, sN d, sU d, sR d, sQ d, sH d, sF d)) a1 a2 a3 (remW kp a4 (encT d)) a5 a6 a7 a8 a9 a10 a11 (nI (min (kp + 1) 24)) i1 i2 i3 i4 i5 i6 i7 i8 i9 i10 i11) := by
  refine Ct.ofJ RX6 rfl [some (.ref 171), some (.int (nI p)), some (.int (nI v)), none] rfl (by decide) (by simp [Value.category]) ?_
  refine j_aload_n dX6_paint_0 rfl rfl ?_
  refine j_iload_n dX6_paint_1 rfl rfl ?_
  refine j_callV (m_one enc_n hN _) dX6_paint_2 rfl mv_X6_148 mH_o rfl ⟨(Nat.le_of_ble_eq_true rfl), (Nat.le_of_ble_eq_true rfl)⟩ ⟨(Nat.le_of_ble_eq_true rfl), (Nat.le_of_ble_eq_true rfl)⟩ (Nat.le_of_ble_eq_true rfl) ?_
  refine j_top (nI 1) (oneI_k hp hN) ?_
  refine j_if_eq 20 dX6_paint_5 (by decide) (fun h => absurd h (by decide)) (fun _ => ?_)
  refine j_iload_n dX6_paint_8 rfl rfl ?_
  refine j_i2l dX6_paint_9 ?_
  refine j_lconst (0) dX6_paint_10 rfl ?_
  refine j_ldc2 (9) dX6_paint_11 kl_X6_170 ?_
  refine j_callS (m_in3 (nI v) (nI 0) (nI 9) rfl rfl) dX6_paint_14 rfl ms_X6_54 ⟨(Nat.le_of_ble_eq_true rfl), (Nat.le_of_ble_eq_true rfl)⟩ ⟨(Nat.le_of_ble_eq_true rfl), (Nat.le_of_ble_eq_true rfl)⟩ (Nat.le_of_ble_eq_true rfl) ?_
  refine j_top (nI 1) (inI_N (by omega) (by omega) (by omega)) ?_
  refine j_if_ne 23 dX6_paint_17 (by decide) (fun _ => ?_) (fun h => absurd h (by decide))
  refine j_aload_n dX6_paint_23 rfl rfl ?_
  refine j_iload_n dX6_paint_24 rfl rfl ?_
  refine j_callV (m_looks hN hp hu hu2 hP) dX6_paint_25 rfl mv_X6_172 mH_o rfl ⟨(Nat.le_of_ble_eq_true rfl), (Nat.le_of_ble_eq_true rfl)⟩ ⟨(Nat.le_of_ble_eq_true rfl), (Nat.le_of_ble_eq_true rfl)⟩ (Nat.le_of_ble_eq_true rfl) ?_
  refine j_istore_n dX6_paint_28 rfl (Nat.le_of_ble_eq_true rfl) rfl ?_
  refine j_aload_n dX6_paint_29 rfl rfl ?_
  refine j_callV (m_remembers hkp) dX6_paint_30 rfl mv_X6_165 mH_o rfl ⟨(Nat.le_of_ble_eq_true rfl), (Nat.le_of_ble_eq_true rfl)⟩ ⟨(Nat.le_of_ble_eq_true rfl), (Nat.le_of_ble_eq_true rfl)⟩ (Nat.le_of_ble_eq_true rfl) ?_
  refine j_aload_n dX6_paint_33 rfl rfl ?_
  refine j_getf dX6_paint_34 6 0 rfl (Nat.le_of_ble_eq_true rfl) fl_X6_7 in_6 mH_o rfl ?_
  refine j_bipush (nI 25) dX6_paint_37 rfl ?_
  refine j_iload_n dX6_paint_39 rfl rfl ?_
  first | refine j_iaddN dX6_paint_40 ?_ | refine j_iadd dX6_paint_40 ?_
  refine j_iload_n dX6_paint_41 rfl rfl ?_
  refine j_iast dX6_paint_42 mH_a0 rfl (by omega) (by decide) _ (mH_t0 (enc_wP (y := nI v) hN hp (if_neg (by intro q; exact absurd (congrArg Int32.toInt q) (by rw [nI_toInt (by omega)]; show ¬ (v : Int) = -1; omega))))) ?_
  refine j_iload_n dX6_paint_43 rfl rfl ?_
  exact j_iret rfl dX6_paint_44 rfl rfl (Nat.le_of_ble_eq_true rfl) (Nat.le_of_ble_eq_true rfl)
theorem m_hedge_ok {p : Nat} (hN : sN d ≤ 7) (hp : p < sN d) (hkp : kp ≤ 24) {v : Nat} (hv : v ≤ 1) : Ct G yX6_hedge cX6_hedge 4 (some .int) 4 0 0 z (mH σ (encT d) a1 a2 a3 a4 a5 a6 a7 a8 a9 a10 a11 (nI kp) i1 i2 i3 i4 i5 i6 i7 i8 i9 i10 i11) [.ref 171, .int (nI p), .int (nI v)] (some (.int (bitI (sH d) (nI p)))) z (mH σ (encT (sC d, sI d, sP d, sD d, sN d, sU d, sR d, sQ d, clrI (sH d) p ||| (nI v <<< (nI p &&& 31)), sF d)) a1 a2 a3 (remW kp a4 (encT d)) a5 a6 a7 a8 a9 a10 a11 (nI (min (kp + 1) 24)) i1 i2 i3 i4 i5 i6 i7 i8 i9 i10 i11) := by
  refine Ct.ofJ RX6 rfl [some (.ref 171), some (.int (nI p)), some (.int (nI v)), none] rfl (by decide) (by simp [Value.category]) ?_
  refine j_aload_n dX6_hedge_0 rfl rfl ?_
  refine j_iload_n dX6_hedge_1 rfl rfl ?_
  refine j_callV (m_one enc_n hN _) dX6_hedge_2 rfl mv_X6_148 mH_o rfl ⟨(Nat.le_of_ble_eq_true rfl), (Nat.le_of_ble_eq_true rfl)⟩ ⟨(Nat.le_of_ble_eq_true rfl), (Nat.le_of_ble_eq_true rfl)⟩ (Nat.le_of_ble_eq_true rfl) ?_
  refine j_top (nI 1) (oneI_k hp hN) ?_
  refine j_if_eq 18 dX6_hedge_5 (by decide) (fun h => absurd h (by decide)) (fun _ => ?_)
  refine j_iload_n dX6_hedge_8 rfl rfl ?_
  refine j_i2l dX6_hedge_9 ?_
  refine j_lconst (0) dX6_hedge_10 rfl ?_
  refine j_lconst (1) dX6_hedge_11 rfl ?_
  refine j_callS (m_in3 (nI v) (nI 0) (nI 1) rfl rfl) dX6_hedge_12 rfl ms_X6_54 ⟨(Nat.le_of_ble_eq_true rfl), (Nat.le_of_ble_eq_true rfl)⟩ ⟨(Nat.le_of_ble_eq_true rfl), (Nat.le_of_ble_eq_true rfl)⟩ (Nat.le_of_ble_eq_true rfl) ?_
  refine j_top (nI 1) (inI_N (by omega) (by omega) (by omega)) ?_
  refine j_if_ne 21 dX6_hedge_15 (by decide) (fun _ => ?_) (fun h => absurd h (by decide))
  refine j_aload_n dX6_hedge_21 rfl rfl ?_
  refine j_getf dX6_hedge_22 6 0 rfl (Nat.le_of_ble_eq_true rfl) fl_X6_7 in_6 mH_o rfl ?_
  refine j_bipush (nI 18) dX6_hedge_25 rfl ?_
  refine j_iload_n dX6_hedge_27 rfl rfl ?_
  first | refine j_iaddN dX6_hedge_28 ?_ | refine j_iadd dX6_hedge_28 ?_
  refine j_iald dX6_hedge_29 mH_a0 rfl (by omega) (by decide) ?_
  refine j_top _ (enc_h hN hp) ?_
  refine j_istore_n dX6_hedge_30 rfl (Nat.le_of_ble_eq_true rfl) rfl ?_
  refine j_aload_n dX6_hedge_31 rfl rfl ?_
  refine j_callV (m_remembers hkp) dX6_hedge_32 rfl mv_X6_165 mH_o rfl ⟨(Nat.le_of_ble_eq_true rfl), (Nat.le_of_ble_eq_true rfl)⟩ ⟨(Nat.le_of_ble_eq_true rfl), (Nat.le_of_ble_eq_true rfl)⟩ (Nat.le_of_ble_eq_true rfl) ?_
  refine j_aload_n dX6_hedge_35 rfl rfl ?_
  refine j_getf dX6_hedge_36 6 0 rfl (Nat.le_of_ble_eq_true rfl) fl_X6_7 in_6 mH_o rfl ?_
  refine j_bipush (nI 18) dX6_hedge_39 rfl ?_
  refine j_iload_n dX6_hedge_41 rfl rfl ?_
  first | refine j_iaddN dX6_hedge_42 ?_ | refine j_iadd dX6_hedge_42 ?_
  refine j_iload_n dX6_hedge_43 rfl rfl ?_
  refine j_iast dX6_hedge_44 mH_a0 rfl (by omega) (by decide) _ (mH_t0 (enc_wH (y := clrI (sH d) p ||| (nI v <<< (nI p &&& 31))) hN hp (by rw [bit_set _ (by omega) (by omega) (by omega), if_pos rfl]) (fun q h1 h2 => by rw [bit_set _ (by omega) h1 (by omega), if_neg h2]))) ?_
  refine j_iload_n dX6_hedge_45 rfl rfl ?_
  exact j_iret rfl dX6_hedge_46 rfl rfl (Nat.le_of_ble_eq_true rfl) (Nat.le_of_ble_eq_true rfl)
theorem m_kind_ok {p : Nat} (hN : sN d ≤ 7) (hp : p < sN d) (hu : 1 ≤ sU d) (hu2 : sU d ≤ 20) (hz : ¬ 0 < dsum (sD d) (sN d) p → dsum (sD d) (sN d) p = 0) : Ct G yX6_kind cX6_kind 2 (some .int) 5 0 0 z (mH σ (encT d) a1 a2 a3 a4 a5 a6 a7 a8 a9 a10 a11 i0 i1 i2 i3 i4 i5 i6 i7 i8 i9 i10 i11) [.ref 171, .int (nI p)] (some (.int (kindI (sD d) (sF d) (sN d) (sU d) p))) z (mH σ (encT d) a1 a2 a3 a4 a5 a6 a7 a8 a9 a10 a11 i0 i1 i2 i3 i4 i5 i6 i7 i8 i9 i10 i11) := by
  refine Ct.ofJ RX6 rfl [some (.ref 171), some (.int (nI p))] rfl (by decide) (by simp [Value.category]) ?_
  refine j_aload_n dX6_kind_0 rfl rfl ?_
  refine j_iload_n dX6_kind_1 rfl rfl ?_
  refine j_callV (m_one enc_n hN _) dX6_kind_2 rfl mv_X6_148 mH_o rfl ⟨(Nat.le_of_ble_eq_true rfl), (Nat.le_of_ble_eq_true rfl)⟩ ⟨(Nat.le_of_ble_eq_true rfl), (Nat.le_of_ble_eq_true rfl)⟩ (Nat.le_of_ble_eq_true rfl) ?_
  refine j_top (nI 1) (oneI_k hp hN) ?_
  refine j_if_eq 16 dX6_kind_5 (by decide) (fun h => absurd h (by decide)) (fun _ => ?_)
  refine j_aload_n dX6_kind_8 rfl rfl ?_
  refine j_iload_n dX6_kind_9 rfl rfl ?_
  refine j_callV (m_kindOf hN hp hu hu2 hz) dX6_kind_10 rfl mv_X6_205 mH_o rfl ⟨(Nat.le_of_ble_eq_true rfl), (Nat.le_of_ble_eq_true rfl)⟩ ⟨(Nat.le_of_ble_eq_true rfl), (Nat.le_of_ble_eq_true rfl)⟩ (Nat.le_of_ble_eq_true rfl) ?_
  refine j_goto 18 dX6_kind_13 (by decide) ?_
  exact j_iret rfl dX6_kind_18 rfl rfl (Nat.le_of_ble_eq_true rfl) (Nat.le_of_ble_eq_true rfl)
end M5

/-! THE MODEL's calls: needs, clear, coin, hiding -/
theorem dX6_needs_0 : decode cX6_needs 0 = .ok (.aload_n 0, 1) := by decide +kernel
theorem dX6_needs_1 : decode cX6_needs 1 = .ok (.iconst 0, 1) := by decide +kernel
theorem dX6_needs_2 : decode cX6_needs 2 = .ok (.putfield 198, 3) := by decide +kernel
theorem dX6_needs_5 : decode cX6_needs 5 = .ok (.iconst 0, 1) := by decide +kernel
theorem dX6_needs_6 : decode cX6_needs 6 = .ok (.istore_n 1, 1) := by decide +kernel
theorem dX6_needs_7 : decode cX6_needs 7 = .ok (.iload_n 1, 1) := by decide +kernel
theorem dX6_needs_8 : decode cX6_needs 8 = .ok (.aload_n 0, 1) := by decide +kernel
theorem dX6_needs_9 : decode cX6_needs 9 = .ok (.getfield 7, 3) := by decide +kernel
theorem dX6_needs_12 : decode cX6_needs 12 = .ok (.iconst 2, 1) := by decide +kernel
theorem dX6_needs_13 : decode cX6_needs 13 = .ok (.iaload, 1) := by decide +kernel
theorem dX6_needs_14 : decode cX6_needs 14 = .ok (.if_icmp .ge 105, 3) := by decide +kernel
theorem dX6_needs_17 : decode cX6_needs 17 = .ok (.aload_n 0, 1) := by decide +kernel
theorem dX6_needs_18 : decode cX6_needs 18 = .ok (.getfield 7, 3) := by decide +kernel
theorem dX6_needs_21 : decode cX6_needs 21 = .ok (.iload_n 1, 1) := by decide +kernel
theorem dX6_needs_22 : decode cX6_needs 22 = .ok (.invokestatic 155, 3) := by decide +kernel
theorem dX6_needs_25 : decode cX6_needs 25 = .ok (.ifCond .le 88, 3) := by decide +kernel
theorem dX6_needs_28 : decode cX6_needs 28 = .ok (.aload_n 0, 1) := by decide +kernel
theorem dX6_needs_29 : decode cX6_needs 29 = .ok (.getfield 7, 3) := by decide +kernel
theorem dX6_needs_32 : decode cX6_needs 32 = .ok (.iload_n 1, 1) := by decide +kernel
theorem dX6_needs_33 : decode cX6_needs 33 = .ok (.invokestatic 151, 3) := by decide +kernel
theorem dX6_needs_36 : decode cX6_needs 36 = .ok (.aload_n 0, 1) := by decide +kernel
theorem dX6_needs_37 : decode cX6_needs 37 = .ok (.getfield 7, 3) := by decide +kernel
theorem dX6_needs_40 : decode cX6_needs 40 = .ok (.iload_n 1, 1) := by decide +kernel
theorem dX6_needs_41 : decode cX6_needs 41 = .ok (.invokestatic 155, 3) := by decide +kernel
theorem dX6_needs_44 : decode cX6_needs 44 = .ok (.aload_n 0, 1) := by decide +kernel
theorem dX6_needs_45 : decode cX6_needs 45 = .ok (.getfield 7, 3) := by decide +kernel
theorem dX6_needs_48 : decode cX6_needs 48 = .ok (.iconst 0, 1) := by decide +kernel
theorem dX6_needs_49 : decode cX6_needs 49 = .ok (.iaload, 1) := by decide +kernel
theorem dX6_needs_50 : decode cX6_needs 50 = .ok (.imul, 1) := by decide +kernel
theorem dX6_needs_51 : decode cX6_needs 51 = .ok (.iconst 1, 1) := by decide +kernel
theorem dX6_needs_52 : decode cX6_needs 52 = .ok (.isub, 1) := by decide +kernel
theorem dX6_needs_53 : decode cX6_needs 53 = .ok (.isub, 1) := by decide +kernel
theorem dX6_needs_54 : decode cX6_needs 54 = .ok (.istore_n 2, 1) := by decide +kernel
theorem dX6_needs_55 : decode cX6_needs 55 = .ok (.aload_n 0, 1) := by decide +kernel
theorem dX6_needs_56 : decode cX6_needs 56 = .ok (.getfield 198, 3) := by decide +kernel
theorem dX6_needs_59 : decode cX6_needs 59 = .ok (.istore_n 3, 1) := by decide +kernel
theorem dX6_needs_60 : decode cX6_needs 60 = .ok (.iload_n 3, 1) := by decide +kernel
theorem dX6_needs_61 : decode cX6_needs 61 = .ok (.ifCond .le 35, 3) := by decide +kernel
theorem dX6_needs_64 : decode cX6_needs 64 = .ok (.aload_n 0, 1) := by decide +kernel
theorem dX6_needs_65 : decode cX6_needs 65 = .ok (.getfield 41, 3) := by decide +kernel
theorem dX6_needs_68 : decode cX6_needs 68 = .ok (.iload_n 3, 1) := by decide +kernel
theorem dX6_needs_69 : decode cX6_needs 69 = .ok (.iconst 1, 1) := by decide +kernel
theorem dX6_needs_70 : decode cX6_needs 70 = .ok (.isub, 1) := by decide +kernel
theorem dX6_needs_71 : decode cX6_needs 71 = .ok (.iaload, 1) := by decide +kernel
theorem dX6_needs_72 : decode cX6_needs 72 = .ok (.iload_n 2, 1) := by decide +kernel
theorem dX6_needs_73 : decode cX6_needs 73 = .ok (.if_icmp .le 23, 3) := by decide +kernel
theorem dX6_needs_76 : decode cX6_needs 76 = .ok (.aload_n 0, 1) := by decide +kernel
theorem dX6_needs_77 : decode cX6_needs 77 = .ok (.getfield 41, 3) := by decide +kernel
theorem dX6_needs_80 : decode cX6_needs 80 = .ok (.iload_n 3, 1) := by decide +kernel
theorem dX6_needs_81 : decode cX6_needs 81 = .ok (.aload_n 0, 1) := by decide +kernel
theorem dX6_needs_82 : decode cX6_needs 82 = .ok (.getfield 41, 3) := by decide +kernel
theorem dX6_needs_85 : decode cX6_needs 85 = .ok (.iload_n 3, 1) := by decide +kernel
theorem dX6_needs_86 : decode cX6_needs 86 = .ok (.iconst 1, 1) := by decide +kernel
theorem dX6_needs_87 : decode cX6_needs 87 = .ok (.isub, 1) := by decide +kernel
theorem dX6_needs_88 : decode cX6_needs 88 = .ok (.iaload, 1) := by decide +kernel
theorem dX6_needs_89 : decode cX6_needs 89 = .ok (.iastore, 1) := by decide +kernel
theorem dX6_needs_90 : decode cX6_needs 90 = .ok (.iinc 3 (-1), 3) := by decide +kernel
theorem dX6_needs_93 : decode cX6_needs 93 = .ok (.goto (-33), 3) := by decide +kernel
theorem dX6_needs_96 : decode cX6_needs 96 = .ok (.aload_n 0, 1) := by decide +kernel
theorem dX6_needs_97 : decode cX6_needs 97 = .ok (.getfield 41, 3) := by decide +kernel
theorem dX6_needs_100 : decode cX6_needs 100 = .ok (.iload_n 3, 1) := by decide +kernel
theorem dX6_needs_101 : decode cX6_needs 101 = .ok (.iload_n 2, 1) := by decide +kernel
theorem dX6_needs_102 : decode cX6_needs 102 = .ok (.iastore, 1) := by decide +kernel
theorem dX6_needs_103 : decode cX6_needs 103 = .ok (.aload_n 0, 1) := by decide +kernel
theorem dX6_needs_104 : decode cX6_needs 104 = .ok (.dup, 1) := by decide +kernel
theorem dX6_needs_105 : decode cX6_needs 105 = .ok (.getfield 198, 3) := by decide +kernel
theorem dX6_needs_108 : decode cX6_needs 108 = .ok (.iconst 1, 1) := by decide +kernel
theorem dX6_needs_109 : decode cX6_needs 109 = .ok (.iadd, 1) := by decide +kernel
theorem dX6_needs_110 : decode cX6_needs 110 = .ok (.putfield 198, 3) := by decide +kernel
theorem dX6_needs_113 : decode cX6_needs 113 = .ok (.iinc 1 1, 3) := by decide +kernel
theorem dX6_needs_116 : decode cX6_needs 116 = .ok (.goto (-109), 3) := by decide +kernel
theorem dX6_needs_119 : decode cX6_needs 119 = .ok (.return_, 1) := by decide +kernel
theorem dX6_clear_0 : decode cX6_clear 0 = .ok (.aload_n 0, 1) := by decide +kernel
theorem dX6_clear_1 : decode cX6_clear 1 = .ok (.getfield 7, 3) := by decide +kernel
theorem dX6_clear_4 : decode cX6_clear 4 = .ok (.iconst 0, 1) := by decide +kernel
theorem dX6_clear_5 : decode cX6_clear 5 = .ok (.iaload, 1) := by decide +kernel
theorem dX6_clear_6 : decode cX6_clear 6 = .ok (.ifCond .ne 6, 3) := by decide +kernel
theorem dX6_clear_9 : decode cX6_clear 9 = .ok (.ldc 163, 2) := by decide +kernel
theorem dX6_clear_11 : decode cX6_clear 11 = .ok (.ireturn, 1) := by decide +kernel
theorem dX6_clear_12 : decode cX6_clear 12 = .ok (.iload_n 1, 1) := by decide +kernel
theorem dX6_clear_13 : decode cX6_clear 13 = .ok (.i2l, 1) := by decide +kernel
theorem dX6_clear_14 : decode cX6_clear 14 = .ok (.lconst 0, 1) := by decide +kernel
theorem dX6_clear_15 : decode cX6_clear 15 = .ok (.ldc2_w 175, 3) := by decide +kernel
theorem dX6_clear_18 : decode cX6_clear 18 = .ok (.invokestatic 54, 3) := by decide +kernel
theorem dX6_clear_21 : decode cX6_clear 21 = .ok (.ifCond .ne 6, 3) := by decide +kernel
theorem dX6_clear_24 : decode cX6_clear 24 = .ok (.ldc 64, 2) := by decide +kernel
theorem dX6_clear_26 : decode cX6_clear 26 = .ok (.ireturn, 1) := by decide +kernel
theorem dX6_clear_27 : decode cX6_clear 27 = .ok (.aload_n 0, 1) := by decide +kernel
theorem dX6_clear_28 : decode cX6_clear 28 = .ok (.invokevirtual 201, 3) := by decide +kernel
theorem dX6_clear_31 : decode cX6_clear 31 = .ok (.iconst 0, 1) := by decide +kernel
theorem dX6_clear_32 : decode cX6_clear 32 = .ok (.istore_n 2, 1) := by decide +kernel
theorem dX6_clear_33 : decode cX6_clear 33 = .ok (.iconst 0, 1) := by decide +kernel
theorem dX6_clear_34 : decode cX6_clear 34 = .ok (.istore_n 3, 1) := by decide +kernel
theorem dX6_clear_35 : decode cX6_clear 35 = .ok (.iload_n 2, 1) := by decide +kernel
theorem dX6_clear_36 : decode cX6_clear 36 = .ok (.aload_n 0, 1) := by decide +kernel
theorem dX6_clear_37 : decode cX6_clear 37 = .ok (.getfield 198, 3) := by decide +kernel
theorem dX6_clear_40 : decode cX6_clear 40 = .ok (.if_icmp .ge 30, 3) := by decide +kernel
theorem dX6_clear_43 : decode cX6_clear 43 = .ok (.iload_n 3, 1) := by decide +kernel
theorem dX6_clear_44 : decode cX6_clear 44 = .ok (.aload_n 0, 1) := by decide +kernel
theorem dX6_clear_45 : decode cX6_clear 45 = .ok (.getfield 41, 3) := by decide +kernel
theorem dX6_clear_48 : decode cX6_clear 48 = .ok (.iload_n 2, 1) := by decide +kernel
theorem dX6_clear_49 : decode cX6_clear 49 = .ok (.iaload, 1) := by decide +kernel
theorem dX6_clear_50 : decode cX6_clear 50 = .ok (.iadd, 1) := by decide +kernel
theorem dX6_clear_51 : decode cX6_clear 51 = .ok (.iload_n 1, 1) := by decide +kernel
theorem dX6_clear_52 : decode cX6_clear 52 = .ok (.if_icmp .gt 18, 3) := by decide +kernel
theorem dX6_clear_55 : decode cX6_clear 55 = .ok (.iload_n 3, 1) := by decide +kernel
theorem dX6_clear_56 : decode cX6_clear 56 = .ok (.aload_n 0, 1) := by decide +kernel
theorem dX6_clear_57 : decode cX6_clear 57 = .ok (.getfield 41, 3) := by decide +kernel
theorem dX6_clear_60 : decode cX6_clear 60 = .ok (.iload_n 2, 1) := by decide +kernel
theorem dX6_clear_61 : decode cX6_clear 61 = .ok (.iaload, 1) := by decide +kernel
theorem dX6_clear_62 : decode cX6_clear 62 = .ok (.iadd, 1) := by decide +kernel
theorem dX6_clear_63 : decode cX6_clear 63 = .ok (.istore_n 3, 1) := by decide +kernel
theorem dX6_clear_64 : decode cX6_clear 64 = .ok (.iinc 2 1, 3) := by decide +kernel
theorem dX6_clear_67 : decode cX6_clear 67 = .ok (.goto (-32), 3) := by decide +kernel
theorem dX6_clear_70 : decode cX6_clear 70 = .ok (.iload_n 2, 1) := by decide +kernel
theorem dX6_clear_71 : decode cX6_clear 71 = .ok (.ireturn, 1) := by decide +kernel
theorem dX6_coin_0 : decode cX6_coin 0 = .ok (.aload_n 0, 1) := by decide +kernel
theorem dX6_coin_1 : decode cX6_coin 1 = .ok (.getfield 7, 3) := by decide +kernel
theorem dX6_coin_4 : decode cX6_coin 4 = .ok (.iconst 0, 1) := by decide +kernel
theorem dX6_coin_5 : decode cX6_coin 5 = .ok (.iaload, 1) := by decide +kernel
theorem dX6_coin_6 : decode cX6_coin 6 = .ok (.ifCond .ne 6, 3) := by decide +kernel
theorem dX6_coin_9 : decode cX6_coin 9 = .ok (.ldc 163, 2) := by decide +kernel
theorem dX6_coin_11 : decode cX6_coin 11 = .ok (.ireturn, 1) := by decide +kernel
theorem dX6_coin_12 : decode cX6_coin 12 = .ok (.iload_n 1, 1) := by decide +kernel
theorem dX6_coin_13 : decode cX6_coin 13 = .ok (.i2l, 1) := by decide +kernel
theorem dX6_coin_14 : decode cX6_coin 14 = .ok (.lconst 0, 1) := by decide +kernel
theorem dX6_coin_15 : decode cX6_coin 15 = .ok (.ldc2_w 52, 3) := by decide +kernel
theorem dX6_coin_18 : decode cX6_coin 18 = .ok (.invokestatic 54, 3) := by decide +kernel
theorem dX6_coin_21 : decode cX6_coin 21 = .ok (.ifCond .ne 6, 3) := by decide +kernel
theorem dX6_coin_24 : decode cX6_coin 24 = .ok (.ldc 64, 2) := by decide +kernel
theorem dX6_coin_26 : decode cX6_coin 26 = .ok (.ireturn, 1) := by decide +kernel
theorem dX6_coin_27 : decode cX6_coin 27 = .ok (.aload_n 0, 1) := by decide +kernel
theorem dX6_coin_28 : decode cX6_coin 28 = .ok (.invokevirtual 201, 3) := by decide +kernel
theorem dX6_coin_31 : decode cX6_coin 31 = .ok (.iconst 0, 1) := by decide +kernel
theorem dX6_coin_32 : decode cX6_coin 32 = .ok (.istore_n 2, 1) := by decide +kernel
theorem dX6_coin_33 : decode cX6_coin 33 = .ok (.iconst 0, 1) := by decide +kernel
theorem dX6_coin_34 : decode cX6_coin 34 = .ok (.istore_n 3, 1) := by decide +kernel
theorem dX6_coin_35 : decode cX6_coin 35 = .ok (.iload_n 3, 1) := by decide +kernel
theorem dX6_coin_36 : decode cX6_coin 36 = .ok (.iload_n 1, 1) := by decide +kernel
theorem dX6_coin_37 : decode cX6_coin 37 = .ok (.if_icmp .ge 26, 3) := by decide +kernel
theorem dX6_coin_40 : decode cX6_coin 40 = .ok (.iload_n 1, 1) := by decide +kernel
theorem dX6_coin_41 : decode cX6_coin 41 = .ok (.aload_n 0, 1) := by decide +kernel
theorem dX6_coin_42 : decode cX6_coin 42 = .ok (.getfield 198, 3) := by decide +kernel
theorem dX6_coin_45 : decode cX6_coin 45 = .ok (.if_icmp .gt 18, 3) := by decide +kernel
theorem dX6_coin_48 : decode cX6_coin 48 = .ok (.iload_n 2, 1) := by decide +kernel
theorem dX6_coin_49 : decode cX6_coin 49 = .ok (.aload_n 0, 1) := by decide +kernel
theorem dX6_coin_50 : decode cX6_coin 50 = .ok (.getfield 41, 3) := by decide +kernel
theorem dX6_coin_53 : decode cX6_coin 53 = .ok (.iload_n 3, 1) := by decide +kernel
theorem dX6_coin_54 : decode cX6_coin 54 = .ok (.iaload, 1) := by decide +kernel
theorem dX6_coin_55 : decode cX6_coin 55 = .ok (.iadd, 1) := by decide +kernel
theorem dX6_coin_56 : decode cX6_coin 56 = .ok (.istore_n 2, 1) := by decide +kernel
theorem dX6_coin_57 : decode cX6_coin 57 = .ok (.iinc 3 1, 3) := by decide +kernel
theorem dX6_coin_60 : decode cX6_coin 60 = .ok (.goto (-25), 3) := by decide +kernel
theorem dX6_coin_63 : decode cX6_coin 63 = .ok (.iload_n 1, 1) := by decide +kernel
theorem dX6_coin_64 : decode cX6_coin 64 = .ok (.aload_n 0, 1) := by decide +kernel
theorem dX6_coin_65 : decode cX6_coin 65 = .ok (.getfield 198, 3) := by decide +kernel
theorem dX6_coin_68 : decode cX6_coin 68 = .ok (.if_icmp .gt 7, 3) := by decide +kernel
theorem dX6_coin_71 : decode cX6_coin 71 = .ok (.iload_n 2, 1) := by decide +kernel
theorem dX6_coin_72 : decode cX6_coin 72 = .ok (.goto 5, 3) := by decide +kernel
theorem dX6_coin_75 : decode cX6_coin 75 = .ok (.ldc 204, 2) := by decide +kernel
theorem dX6_coin_77 : decode cX6_coin 77 = .ok (.ireturn, 1) := by decide +kernel
theorem dX6_hiding_0 : decode cX6_hiding 0 = .ok (.aload_n 0, 1) := by decide +kernel
theorem dX6_hiding_1 : decode cX6_hiding 1 = .ok (.getfield 7, 3) := by decide +kernel
theorem dX6_hiding_4 : decode cX6_hiding 4 = .ok (.iconst 0, 1) := by decide +kernel
theorem dX6_hiding_5 : decode cX6_hiding 5 = .ok (.iaload, 1) := by decide +kernel
theorem dX6_hiding_6 : decode cX6_hiding 6 = .ok (.ifCond .ne 6, 3) := by decide +kernel
theorem dX6_hiding_9 : decode cX6_hiding 9 = .ok (.ldc 163, 2) := by decide +kernel
theorem dX6_hiding_11 : decode cX6_hiding 11 = .ok (.ireturn, 1) := by decide +kernel
theorem dX6_hiding_12 : decode cX6_hiding 12 = .ok (.iload_n 1, 1) := by decide +kernel
theorem dX6_hiding_13 : decode cX6_hiding 13 = .ok (.i2l, 1) := by decide +kernel
theorem dX6_hiding_14 : decode cX6_hiding 14 = .ok (.lconst 0, 1) := by decide +kernel
theorem dX6_hiding_15 : decode cX6_hiding 15 = .ok (.lconst 1, 1) := by decide +kernel
theorem dX6_hiding_16 : decode cX6_hiding 16 = .ok (.invokestatic 54, 3) := by decide +kernel
theorem dX6_hiding_19 : decode cX6_hiding 19 = .ok (.ifCond .ne 6, 3) := by decide +kernel
theorem dX6_hiding_22 : decode cX6_hiding 22 = .ok (.ldc 64, 2) := by decide +kernel
theorem dX6_hiding_24 : decode cX6_hiding 24 = .ok (.ireturn, 1) := by decide +kernel
theorem dX6_hiding_25 : decode cX6_hiding 25 = .ok (.aload_n 0, 1) := by decide +kernel
theorem dX6_hiding_26 : decode cX6_hiding 26 = .ok (.invokevirtual 195, 3) := by decide +kernel
theorem dX6_hiding_29 : decode cX6_hiding 29 = .ok (.iconst 0, 1) := by decide +kernel
theorem dX6_hiding_30 : decode cX6_hiding 30 = .ok (.istore_n 2, 1) := by decide +kernel
theorem dX6_hiding_31 : decode cX6_hiding 31 = .ok (.iconst 0, 1) := by decide +kernel
theorem dX6_hiding_32 : decode cX6_hiding 32 = .ok (.istore_n 3, 1) := by decide +kernel
theorem dX6_hiding_33 : decode cX6_hiding 33 = .ok (.iload_n 3, 1) := by decide +kernel
theorem dX6_hiding_34 : decode cX6_hiding 34 = .ok (.aload_n 0, 1) := by decide +kernel
theorem dX6_hiding_35 : decode cX6_hiding 35 = .ok (.getfield 7, 3) := by decide +kernel
theorem dX6_hiding_38 : decode cX6_hiding 38 = .ok (.iconst 2, 1) := by decide +kernel
theorem dX6_hiding_39 : decode cX6_hiding 39 = .ok (.iaload, 1) := by decide +kernel
theorem dX6_hiding_40 : decode cX6_hiding 40 = .ok (.if_icmp .ge 121, 3) := by decide +kernel
theorem dX6_hiding_43 : decode cX6_hiding 43 = .ok (.iconst 0, 1) := by decide +kernel
theorem dX6_hiding_44 : decode cX6_hiding 44 = .ok (.istore 4, 2) := by decide +kernel
theorem dX6_hiding_46 : decode cX6_hiding 46 = .ok (.iload 4, 2) := by decide +kernel
theorem dX6_hiding_48 : decode cX6_hiding 48 = .ok (.iload_n 3, 1) := by decide +kernel
theorem dX6_hiding_49 : decode cX6_hiding 49 = .ok (.if_icmp .ge 106, 3) := by decide +kernel
theorem dX6_hiding_52 : decode cX6_hiding 52 = .ok (.aload_n 0, 1) := by decide +kernel
theorem dX6_hiding_53 : decode cX6_hiding 53 = .ok (.getfield 13, 3) := by decide +kernel
theorem dX6_hiding_56 : decode cX6_hiding 56 = .ok (.bipush 40, 2) := by decide +kernel
theorem dX6_hiding_58 : decode cX6_hiding 58 = .ok (.bipush 7, 2) := by decide +kernel
theorem dX6_hiding_60 : decode cX6_hiding 60 = .ok (.iload_n 3, 1) := by decide +kernel
theorem dX6_hiding_61 : decode cX6_hiding 61 = .ok (.imul, 1) := by decide +kernel
theorem dX6_hiding_62 : decode cX6_hiding 62 = .ok (.iadd, 1) := by decide +kernel
theorem dX6_hiding_63 : decode cX6_hiding 63 = .ok (.iload 4, 2) := by decide +kernel
theorem dX6_hiding_65 : decode cX6_hiding 65 = .ok (.iadd, 1) := by decide +kernel
theorem dX6_hiding_66 : decode cX6_hiding 66 = .ok (.iaload, 1) := by decide +kernel
theorem dX6_hiding_67 : decode cX6_hiding 67 = .ok (.istore 5, 2) := by decide +kernel
theorem dX6_hiding_69 : decode cX6_hiding 69 = .ok (.aload_n 0, 1) := by decide +kernel
theorem dX6_hiding_70 : decode cX6_hiding 70 = .ok (.getfield 13, 3) := by decide +kernel
theorem dX6_hiding_73 : decode cX6_hiding 73 = .ok (.bipush 40, 2) := by decide +kernel
theorem dX6_hiding_75 : decode cX6_hiding 75 = .ok (.bipush 7, 2) := by decide +kernel
theorem dX6_hiding_77 : decode cX6_hiding 77 = .ok (.iload 4, 2) := by decide +kernel
theorem dX6_hiding_79 : decode cX6_hiding 79 = .ok (.imul, 1) := by decide +kernel
theorem dX6_hiding_80 : decode cX6_hiding 80 = .ok (.iadd, 1) := by decide +kernel
theorem dX6_hiding_81 : decode cX6_hiding 81 = .ok (.iload_n 3, 1) := by decide +kernel
theorem dX6_hiding_82 : decode cX6_hiding 82 = .ok (.iadd, 1) := by decide +kernel
theorem dX6_hiding_83 : decode cX6_hiding 83 = .ok (.iaload, 1) := by decide +kernel
theorem dX6_hiding_84 : decode cX6_hiding 84 = .ok (.istore 6, 2) := by decide +kernel
theorem dX6_hiding_86 : decode cX6_hiding 86 = .ok (.iload 5, 2) := by decide +kernel
theorem dX6_hiding_88 : decode cX6_hiding 88 = .ok (.iload 6, 2) := by decide +kernel
theorem dX6_hiding_90 : decode cX6_hiding 90 = .ok (.if_icmp .ge 8, 3) := by decide +kernel
theorem dX6_hiding_93 : decode cX6_hiding 93 = .ok (.iload 5, 2) := by decide +kernel
theorem dX6_hiding_95 : decode cX6_hiding 95 = .ok (.goto 5, 3) := by decide +kernel
theorem dX6_hiding_98 : decode cX6_hiding 98 = .ok (.iload 6, 2) := by decide +kernel
theorem dX6_hiding_100 : decode cX6_hiding 100 = .ok (.istore 7, 2) := by decide +kernel
theorem dX6_hiding_102 : decode cX6_hiding 102 = .ok (.aload_n 0, 1) := by decide +kernel
theorem dX6_hiding_103 : decode cX6_hiding 103 = .ok (.getfield 13, 3) := by decide +kernel
theorem dX6_hiding_106 : decode cX6_hiding 106 = .ok (.bipush 40, 2) := by decide +kernel
theorem dX6_hiding_108 : decode cX6_hiding 108 = .ok (.bipush 7, 2) := by decide +kernel
theorem dX6_hiding_110 : decode cX6_hiding 110 = .ok (.iload_n 3, 1) := by decide +kernel
theorem dX6_hiding_111 : decode cX6_hiding 111 = .ok (.imul, 1) := by decide +kernel
theorem dX6_hiding_112 : decode cX6_hiding 112 = .ok (.iadd, 1) := by decide +kernel
theorem dX6_hiding_113 : decode cX6_hiding 113 = .ok (.iload 4, 2) := by decide +kernel
theorem dX6_hiding_115 : decode cX6_hiding 115 = .ok (.iadd, 1) := by decide +kernel
theorem dX6_hiding_116 : decode cX6_hiding 116 = .ok (.iload 5, 2) := by decide +kernel
theorem dX6_hiding_118 : decode cX6_hiding 118 = .ok (.iload 7, 2) := by decide +kernel
theorem dX6_hiding_120 : decode cX6_hiding 120 = .ok (.isub, 1) := by decide +kernel
theorem dX6_hiding_121 : decode cX6_hiding 121 = .ok (.iastore, 1) := by decide +kernel
theorem dX6_hiding_122 : decode cX6_hiding 122 = .ok (.aload_n 0, 1) := by decide +kernel
theorem dX6_hiding_123 : decode cX6_hiding 123 = .ok (.getfield 13, 3) := by decide +kernel
theorem dX6_hiding_126 : decode cX6_hiding 126 = .ok (.bipush 40, 2) := by decide +kernel
theorem dX6_hiding_128 : decode cX6_hiding 128 = .ok (.bipush 7, 2) := by decide +kernel
theorem dX6_hiding_130 : decode cX6_hiding 130 = .ok (.iload 4, 2) := by decide +kernel
theorem dX6_hiding_132 : decode cX6_hiding 132 = .ok (.imul, 1) := by decide +kernel
theorem dX6_hiding_133 : decode cX6_hiding 133 = .ok (.iadd, 1) := by decide +kernel
theorem dX6_hiding_134 : decode cX6_hiding 134 = .ok (.iload_n 3, 1) := by decide +kernel
theorem dX6_hiding_135 : decode cX6_hiding 135 = .ok (.iadd, 1) := by decide +kernel
theorem dX6_hiding_136 : decode cX6_hiding 136 = .ok (.iload 6, 2) := by decide +kernel
theorem dX6_hiding_138 : decode cX6_hiding 138 = .ok (.iload 7, 2) := by decide +kernel
theorem dX6_hiding_140 : decode cX6_hiding 140 = .ok (.isub, 1) := by decide +kernel
theorem dX6_hiding_141 : decode cX6_hiding 141 = .ok (.iastore, 1) := by decide +kernel
theorem dX6_hiding_142 : decode cX6_hiding 142 = .ok (.iload_n 2, 1) := by decide +kernel
theorem dX6_hiding_143 : decode cX6_hiding 143 = .ok (.iconst 2, 1) := by decide +kernel
theorem dX6_hiding_144 : decode cX6_hiding 144 = .ok (.iload 7, 2) := by decide +kernel
theorem dX6_hiding_146 : decode cX6_hiding 146 = .ok (.imul, 1) := by decide +kernel
theorem dX6_hiding_147 : decode cX6_hiding 147 = .ok (.iadd, 1) := by decide +kernel
theorem dX6_hiding_148 : decode cX6_hiding 148 = .ok (.istore_n 2, 1) := by decide +kernel
theorem dX6_hiding_149 : decode cX6_hiding 149 = .ok (.iinc 4 1, 3) := by decide +kernel
theorem dX6_hiding_152 : decode cX6_hiding 152 = .ok (.goto (-106), 3) := by decide +kernel
theorem dX6_hiding_155 : decode cX6_hiding 155 = .ok (.iinc 3 1, 3) := by decide +kernel
theorem dX6_hiding_158 : decode cX6_hiding 158 = .ok (.goto (-125), 3) := by decide +kernel
theorem dX6_hiding_161 : decode cX6_hiding 161 = .ok (.iconst 0, 1) := by decide +kernel
theorem dX6_hiding_162 : decode cX6_hiding 162 = .ok (.istore_n 3, 1) := by decide +kernel
theorem dX6_hiding_163 : decode cX6_hiding 163 = .ok (.iconst 0, 1) := by decide +kernel
theorem dX6_hiding_164 : decode cX6_hiding 164 = .ok (.istore 4, 2) := by decide +kernel
theorem dX6_hiding_166 : decode cX6_hiding 166 = .ok (.iload 4, 2) := by decide +kernel
theorem dX6_hiding_168 : decode cX6_hiding 168 = .ok (.aload_n 0, 1) := by decide +kernel
theorem dX6_hiding_169 : decode cX6_hiding 169 = .ok (.getfield 7, 3) := by decide +kernel
theorem dX6_hiding_172 : decode cX6_hiding 172 = .ok (.iconst 2, 1) := by decide +kernel
theorem dX6_hiding_173 : decode cX6_hiding 173 = .ok (.iaload, 1) := by decide +kernel
theorem dX6_hiding_174 : decode cX6_hiding 174 = .ok (.if_icmp .ge 41, 3) := by decide +kernel
theorem dX6_hiding_177 : decode cX6_hiding 177 = .ok (.iload_n 3, 1) := by decide +kernel
theorem dX6_hiding_178 : decode cX6_hiding 178 = .ok (.aload_n 0, 1) := by decide +kernel
theorem dX6_hiding_179 : decode cX6_hiding 179 = .ok (.getfield 13, 3) := by decide +kernel
theorem dX6_hiding_182 : decode cX6_hiding 182 = .ok (.iload 4, 2) := by decide +kernel
theorem dX6_hiding_184 : decode cX6_hiding 184 = .ok (.invokestatic 155, 3) := by decide +kernel
theorem dX6_hiding_187 : decode cX6_hiding 187 = .ok (.aload_n 0, 1) := by decide +kernel
theorem dX6_hiding_188 : decode cX6_hiding 188 = .ok (.getfield 7, 3) := by decide +kernel
theorem dX6_hiding_191 : decode cX6_hiding 191 = .ok (.iload 4, 2) := by decide +kernel
theorem dX6_hiding_193 : decode cX6_hiding 193 = .ok (.invokestatic 155, 3) := by decide +kernel
theorem dX6_hiding_196 : decode cX6_hiding 196 = .ok (.if_icmp .ge 10, 3) := by decide +kernel
theorem dX6_hiding_199 : decode cX6_hiding 199 = .ok (.iconst 1, 1) := by decide +kernel
theorem dX6_hiding_200 : decode cX6_hiding 200 = .ok (.iload 4, 2) := by decide +kernel
theorem dX6_hiding_202 : decode cX6_hiding 202 = .ok (.ishl, 1) := by decide +kernel
theorem dX6_hiding_203 : decode cX6_hiding 203 = .ok (.goto 4, 3) := by decide +kernel
theorem dX6_hiding_206 : decode cX6_hiding 206 = .ok (.iconst 0, 1) := by decide +kernel
theorem dX6_hiding_207 : decode cX6_hiding 207 = .ok (.ior, 1) := by decide +kernel
theorem dX6_hiding_208 : decode cX6_hiding 208 = .ok (.istore_n 3, 1) := by decide +kernel
theorem dX6_hiding_209 : decode cX6_hiding 209 = .ok (.iinc 4 1, 3) := by decide +kernel
theorem dX6_hiding_212 : decode cX6_hiding 212 = .ok (.goto (-46), 3) := by decide +kernel
theorem dX6_hiding_215 : decode cX6_hiding 215 = .ok (.iload_n 1, 1) := by decide +kernel
theorem dX6_hiding_216 : decode cX6_hiding 216 = .ok (.ifCond .ne 7, 3) := by decide +kernel
theorem dX6_hiding_219 : decode cX6_hiding 219 = .ok (.iload_n 3, 1) := by decide +kernel
theorem dX6_hiding_220 : decode cX6_hiding 220 = .ok (.goto 4, 3) := by decide +kernel
theorem dX6_hiding_223 : decode cX6_hiding 223 = .ok (.iload_n 2, 1) := by decide +kernel
theorem dX6_hiding_224 : decode cX6_hiding 224 = .ok (.ireturn, 1) := by decide +kernel
theorem lt_1 {x : Int32} : x < nI 1 ↔ x ≤ 0 := by
  rw [Int32.lt_iff_toInt_lt, Int32.le_iff_toInt_le, show (nI 1).toInt = 1 from by decide, show (0 : Int32).toInt = 0 from by decide]
  omega
section MN
variable {G : GG} {z : Nat} {σ : AH} {a0 a1 a2 a3 a4 a5 a6 a7 a8 a9 a10 a11 : Nat → Int32} {i0 i1 i2 i3 i4 i5 i6 i7 i8 i9 i10 i11 : Int32} {d : TS} {ne : Nat → Int32}
theorem m_needs (hN : sN d ≤ 7) (hu : 1 ≤ sU d) (hu2 : sU d ≤ 20) : Ct G yX6_needs cX6_needs 4 none 4 0 0 z (mH σ (encT d) a1 a2 a3 a4 a5 a6 a7 a8 a9 ne a11 i0 i1 i2 i3 i4 i5 i6 i7 i8 i9 i10 i11) [.ref 171] none z (mH σ (encT d) a1 a2 a3 a4 a5 a6 a7 a8 a9 ((gat (sD d) (sN d) (sU d) ne (sN d)).1) a11 i0 i1 i2 i3 i4 i5 i6 i7 i8 i9 (nI (gat (sD d) (sN d) (sU d) ne (sN d)).2) i11) := by
  refine Ct.ofJ RX6 rfl [some (.ref 171), none, none, none] rfl (by decide) (by simp [Value.category]) ?_
  refine j_aload_n dX6_needs_0 rfl rfl ?_
  refine j_iconst (nI 0) dX6_needs_1 rfl ?_
  refine j_putf dX6_needs_2 6 21 rfl (Nat.le_of_ble_eq_true rfl) fl_X6_198 in_6 tyX6 tyX6_ok nmX6 rfl rfl mH_o (Nat.le_of_ble_eq_true rfl) _ mH_p10 ?_
  refine j_iconst (nI 0) dX6_needs_5 rfl ?_
  refine j_istore_n dX6_needs_6 rfl (Nat.le_of_ble_eq_true rfl) rfl ?_
  suffices H : ∀ (k p : Nat) (o2 o3 : Option Value), p ≤ sN d → sN d < p + k → J G RX6 cX6_needs 4 none (TQ G 4 0 0 none z (mH σ (encT d) a1 a2 a3 a4 a5 a6 a7 a8 a9 ((gat (sD d) (sN d) (sU d) ne (sN d)).1) a11 i0 i1 i2 i3 i4 i5 i6 i7 i8 i9 (nI (gat (sD d) (sN d) (sU d) ne (sN d)).2) i11)) z (mH σ (encT d) a1 a2 a3 a4 a5 a6 a7 a8 a9 ((gat (sD d) (sN d) (sU d) ne p).1) a11 i0 i1 i2 i3 i4 i5 i6 i7 i8 i9 (nI (gat (sD d) (sN d) (sU d) ne p).2) i11) 0 0 7 [some (.ref 171), some (.int (nI p)), o2, o3] [] from H (sN d + 1) 0 none none (by omega) (by omega)
  intro k
  induction k with
  | zero => intro p o2 o3 h1 h2; exact absurd h2 (by omega)
  | succ k ih =>
    intro p o2 o3 h1 h2
    have hle := gat_le (sD d) (sN d) (sU d) ne p
    have ih2 := fun o2 o3 h h9 => ih (p + 1) o2 o3 h h9
    simp only [gat] at ih2
    refine j_iload_n dX6_needs_7 rfl rfl ?_
    refine j_aload_n dX6_needs_8 rfl rfl ?_
    refine j_getf dX6_needs_9 6 0 rfl (Nat.le_of_ble_eq_true rfl) fl_X6_7 in_6 mH_o rfl ?_
    refine j_iconst (nI 2) dX6_needs_12 rfl ?_
    refine j_iald dX6_needs_13 mH_a0 (k := 2) rfl (by omega) (by decide) ?_
    refine j_top (nI (sN d)) rfl ?_
    refine j_icmp_geN 119 dX6_needs_14 (by decide) (by omega) (by omega) (fun b14 => ?_) (fun b14 => ?_)
    · obtain rfl : p = sN d := by omega
      exact j_vret rfl dX6_needs_119 rfl (Nat.le_of_ble_eq_true rfl) (Nat.le_of_ble_eq_true rfl)
    · refine j_aload_n dX6_needs_17 rfl rfl ?_
      refine j_getf dX6_needs_18 6 0 rfl (Nat.le_of_ble_eq_true rfl) fl_X6_7 in_6 mH_o rfl ?_
      refine j_iload_n dX6_needs_21 rfl rfl ?_
      refine j_callS (m_shadeIn (d := d) mH_a0 hN (by omega) hu hu2) dX6_needs_22 rfl ms_X6_155 ⟨(Nat.le_of_ble_eq_true rfl), (Nat.le_of_ble_eq_true rfl)⟩ ⟨(Nat.le_of_ble_eq_true rfl), (Nat.le_of_ble_eq_true rfl)⟩ (Nat.le_of_ble_eq_true rfl) ?_
      refine j_if_le 113 dX6_needs_25 (by decide) (fun b25 => ?_) (fun b25 => ?_)
      · first | refine j_iincN dX6_needs_113 rfl (Nat.le_of_ble_eq_true rfl) rfl ?_ | refine j_iinc _ dX6_needs_113 rfl rfl (Nat.le_of_ble_eq_true rfl) rfl ?_
        refine j_goto 7 dX6_needs_116 (by decide) ?_
        rw [if_pos (lt_1.mpr b25)] at ih2; exact ih2 _ _ (by omega) (by omega)
      · refine j_aload_n dX6_needs_28 rfl rfl ?_
        refine j_getf dX6_needs_29 6 0 rfl (Nat.le_of_ble_eq_true rfl) fl_X6_7 in_6 mH_o rfl ?_
        refine j_iload_n dX6_needs_32 rfl rfl ?_
        refine j_callS (m_owedIn (d := d) mH_a0 hN (by omega)) dX6_needs_33 rfl ms_X6_151 ⟨(Nat.le_of_ble_eq_true rfl), (Nat.le_of_ble_eq_true rfl)⟩ ⟨(Nat.le_of_ble_eq_true rfl), (Nat.le_of_ble_eq_true rfl)⟩ (Nat.le_of_ble_eq_true rfl) ?_
        refine j_aload_n dX6_needs_36 rfl rfl ?_
        refine j_getf dX6_needs_37 6 0 rfl (Nat.le_of_ble_eq_true rfl) fl_X6_7 in_6 mH_o rfl ?_
        refine j_iload_n dX6_needs_40 rfl rfl ?_
        refine j_callS (m_shadeIn (d := d) mH_a0 hN (by omega) hu hu2) dX6_needs_41 rfl ms_X6_155 ⟨(Nat.le_of_ble_eq_true rfl), (Nat.le_of_ble_eq_true rfl)⟩ ⟨(Nat.le_of_ble_eq_true rfl), (Nat.le_of_ble_eq_true rfl)⟩ (Nat.le_of_ble_eq_true rfl) ?_
        refine j_aload_n dX6_needs_44 rfl rfl ?_
        refine j_getf dX6_needs_45 6 0 rfl (Nat.le_of_ble_eq_true rfl) fl_X6_7 in_6 mH_o rfl ?_
        refine j_iconst (nI 0) dX6_needs_48 rfl ?_
        refine j_iald dX6_needs_49 mH_a0 (k := 0) rfl (by omega) (by decide) ?_
        refine j_top (nI (sU d)) rfl ?_
        refine j_imul dX6_needs_50 ?_
        refine j_iconst (nI 1) dX6_needs_51 rfl ?_
        refine j_isub dX6_needs_52 ?_
        refine j_isub dX6_needs_53 ?_
        refine j_istore_n dX6_needs_54 rfl (Nat.le_of_ble_eq_true rfl) rfl ?_
        refine j_aload_n dX6_needs_55 rfl rfl ?_
        refine j_getf dX6_needs_56 6 21 rfl (Nat.le_of_ble_eq_true rfl) fl_X6_198 in_6 mH_o rfl ?_
        refine j_istore_n dX6_needs_59 rfl (Nat.le_of_ble_eq_true rfl) rfl ?_
        have hsh : ¬ shd (sD d) (sN d) (sU d) p < nI 1 := fun w => b25 (lt_1.mp w)
        simp only [if_neg hsh] at ih2
        suffices H2 : ∀ (a : Nat) (nn : Nat → Int32), a ≤ (gat (sD d) (sN d) (sU d) ne p).2 → insL (needI (sD d) (sN d) (sU d) p) a nn = insL (needI (sD d) (sN d) (sU d) p) (gat (sD d) (sN d) (sU d) ne p).2 (gat (sD d) (sN d) (sU d) ne p).1 → J G RX6 cX6_needs 4 none (TQ G 4 0 0 none z (mH σ (encT d) a1 a2 a3 a4 a5 a6 a7 a8 a9 ((gat (sD d) (sN d) (sU d) ne (sN d)).1) a11 i0 i1 i2 i3 i4 i5 i6 i7 i8 i9 (nI (gat (sD d) (sN d) (sU d) ne (sN d)).2) i11)) z (mH σ (encT d) a1 a2 a3 a4 a5 a6 a7 a8 a9 nn a11 i0 i1 i2 i3 i4 i5 i6 i7 i8 i9 (nI (gat (sD d) (sN d) (sU d) ne p).2) i11) 0 0 60 [some (.ref 171), some (.int (nI p)), some (.int (needI (sD d) (sN d) (sU d) p)), some (.int (nI a))] [] from H2 _ _ (Nat.le_refl _) rfl
        intro a
        induction a with
        | zero =>
          intro nn ha he
          have he : (nn, 0) = _ := he
          refine j_iload_n dX6_needs_60 rfl rfl ?_
          refine j_if_le 96 dX6_needs_61 (by decide) (fun b61 => ?_) (fun b61 => by exact absurd (by decide) b61)
          refine j_aload_n dX6_needs_96 rfl rfl ?_
          refine j_getf dX6_needs_97 6 20 rfl (Nat.le_of_ble_eq_true rfl) fl_X6_41 in_6 mH_o rfl ?_
          refine j_iload_n dX6_needs_100 rfl rfl ?_
          refine j_iload_n dX6_needs_101 rfl rfl ?_
          refine j_iast dX6_needs_102 mH_a10 rfl (by omega) (by decide) _ mH_s10 ?_
          refine j_aload_n dX6_needs_103 rfl rfl ?_
          refine j_dup dX6_needs_104 rfl ?_
          refine j_getf dX6_needs_105 6 21 rfl (Nat.le_of_ble_eq_true rfl) fl_X6_198 in_6 mH_o rfl ?_
          refine j_iconst (nI 1) dX6_needs_108 rfl ?_
          first | refine j_iaddN dX6_needs_109 ?_ | refine j_iadd dX6_needs_109 ?_
          refine j_putf dX6_needs_110 6 21 rfl (Nat.le_of_ble_eq_true rfl) fl_X6_198 in_6 tyX6 tyX6_ok nmX6 rfl rfl mH_o (Nat.le_of_ble_eq_true rfl) _ mH_p10 ?_
          first | refine j_iincN dX6_needs_113 rfl (Nat.le_of_ble_eq_true rfl) rfl ?_ | refine j_iinc _ dX6_needs_113 rfl rfl (Nat.le_of_ble_eq_true rfl) rfl ?_
          refine j_goto 7 dX6_needs_116 (by decide) ?_
          rw [← he] at ih2; exact ih2 _ _ (by omega) (by omega)
        | succ a iha =>
          intro nn ha he
          have e1 : insL (needI (sD d) (sN d) (sU d) p) (a + 1) nn = if nn a ≤ needI (sD d) (sN d) (sU d) p then (nn, a + 1) else insL (needI (sD d) (sN d) (sU d) p) a (upd nn (a + 1) (nn a)) := rfl
          refine j_iload_n dX6_needs_60 rfl rfl ?_
          refine j_if_le 96 dX6_needs_61 (by decide) (fun b61 => by exact absurd b61 (nI_nle (by omega) (by omega))) (fun b61 => ?_)
          refine j_aload_n dX6_needs_64 rfl rfl ?_
          refine j_getf dX6_needs_65 6 20 rfl (Nat.le_of_ble_eq_true rfl) fl_X6_41 in_6 mH_o rfl ?_
          refine j_iload_n dX6_needs_68 rfl rfl ?_
          refine j_iconst (nI 1) dX6_needs_69 rfl ?_
          refine j_isubN dX6_needs_70 (by omega) ?_
          refine j_iald dX6_needs_71 mH_a10 rfl (by omega) (by decide) ?_
          refine j_iload_n dX6_needs_72 rfl rfl ?_
          refine j_icmp_le 96 dX6_needs_73 (by decide) (fun b73 => ?_) (fun b73 => ?_)
          · refine j_aload_n dX6_needs_96 rfl rfl ?_
            refine j_getf dX6_needs_97 6 20 rfl (Nat.le_of_ble_eq_true rfl) fl_X6_41 in_6 mH_o rfl ?_
            refine j_iload_n dX6_needs_100 rfl rfl ?_
            refine j_iload_n dX6_needs_101 rfl rfl ?_
            refine j_iast dX6_needs_102 mH_a10 rfl (by omega) (by decide) _ mH_s10 ?_
            refine j_aload_n dX6_needs_103 rfl rfl ?_
            refine j_dup dX6_needs_104 rfl ?_
            refine j_getf dX6_needs_105 6 21 rfl (Nat.le_of_ble_eq_true rfl) fl_X6_198 in_6 mH_o rfl ?_
            refine j_iconst (nI 1) dX6_needs_108 rfl ?_
            first | refine j_iaddN dX6_needs_109 ?_ | refine j_iadd dX6_needs_109 ?_
            refine j_putf dX6_needs_110 6 21 rfl (Nat.le_of_ble_eq_true rfl) fl_X6_198 in_6 tyX6 tyX6_ok nmX6 rfl rfl mH_o (Nat.le_of_ble_eq_true rfl) _ mH_p10 ?_
            first | refine j_iincN dX6_needs_113 rfl (Nat.le_of_ble_eq_true rfl) rfl ?_ | refine j_iinc _ dX6_needs_113 rfl rfl (Nat.le_of_ble_eq_true rfl) rfl ?_
            refine j_goto 7 dX6_needs_116 (by decide) ?_
            rw [e1, if_pos (show nn a ≤ _ from b73)] at he
            rw [← he] at ih2; exact ih2 _ _ (by omega) (by omega)
          · refine j_aload_n dX6_needs_76 rfl rfl ?_
            refine j_getf dX6_needs_77 6 20 rfl (Nat.le_of_ble_eq_true rfl) fl_X6_41 in_6 mH_o rfl ?_
            refine j_iload_n dX6_needs_80 rfl rfl ?_
            refine j_aload_n dX6_needs_81 rfl rfl ?_
            refine j_getf dX6_needs_82 6 20 rfl (Nat.le_of_ble_eq_true rfl) fl_X6_41 in_6 mH_o rfl ?_
            refine j_iload_n dX6_needs_85 rfl rfl ?_
            refine j_iconst (nI 1) dX6_needs_86 rfl ?_
            refine j_isubN dX6_needs_87 (by omega) ?_
            refine j_iald dX6_needs_88 mH_a10 rfl (by omega) (by decide) ?_
            refine j_iast dX6_needs_89 mH_a10 rfl (by omega) (by decide) _ mH_s10 ?_
            refine j_iinc (nI a) dX6_needs_90 rfl (by rw [show Int32.ofInt (-1) = (-1 : Int32) from by decide]; exact pk_m1 _) (Nat.le_of_ble_eq_true rfl) rfl ?_
            refine j_goto 60 dX6_needs_93 (by decide) ?_
            rw [e1, if_neg (show ¬ nn a ≤ _ from b73)] at he
            exact iha _ (by omega) he
theorem m_clear_state (h : a0 0 = nI 0) (c : Int32) : Ct G yX6_clear cX6_clear 4 (some .int) 5 0 0 z (mH σ a0 a1 a2 a3 a4 a5 a6 a7 a8 a9 a10 a11 i0 i1 i2 i3 i4 i5 i6 i7 i8 i9 i10 i11) [.ref 171, .int c] (some (.int (-1000002))) z (mH σ a0 a1 a2 a3 a4 a5 a6 a7 a8 a9 a10 a11 i0 i1 i2 i3 i4 i5 i6 i7 i8 i9 i10 i11) := by
  refine Ct.ofJ RX6 rfl [some (.ref 171), some (.int c), none, none] rfl (by decide) (by simp [Value.category]) ?_
  refine j_aload_n dX6_clear_0 rfl rfl ?_
  refine j_getf dX6_clear_1 6 0 rfl (Nat.le_of_ble_eq_true rfl) fl_X6_7 in_6 mH_o rfl ?_
  refine j_iconst (nI 0) dX6_clear_4 rfl ?_
  refine j_iald dX6_clear_5 mH_a0 rfl (by omega) (by decide) ?_
  refine j_top (nI 0) h ?_
  refine j_if_ne 12 dX6_clear_6 (by decide) (fun h => absurd rfl h) (fun _ => ?_)
  refine j_ldc (-1000002) dX6_clear_9 kc_X6_163 ?_
  exact j_iret rfl dX6_clear_11 rfl rfl (Nat.le_of_ble_eq_true rfl) (Nat.le_of_ble_eq_true rfl)
theorem m_clear_bad (h0 : ¬ a0 0 = 0) (c : Int32) (h : c < 0 ∨ 999999 < c) : Ct G yX6_clear cX6_clear 4 (some .int) 5 0 0 z (mH σ a0 a1 a2 a3 a4 a5 a6 a7 a8 a9 a10 a11 i0 i1 i2 i3 i4 i5 i6 i7 i8 i9 i10 i11) [.ref 171, .int c] (some (.int (-1000001))) z (mH σ a0 a1 a2 a3 a4 a5 a6 a7 a8 a9 a10 a11 i0 i1 i2 i3 i4 i5 i6 i7 i8 i9 i10 i11) := by
  refine Ct.ofJ RX6 rfl [some (.ref 171), some (.int c), none, none] rfl (by decide) (by simp [Value.category]) ?_
  refine j_aload_n dX6_clear_0 rfl rfl ?_
  refine j_getf dX6_clear_1 6 0 rfl (Nat.le_of_ble_eq_true rfl) fl_X6_7 in_6 mH_o rfl ?_
  refine j_iconst (nI 0) dX6_clear_4 rfl ?_
  refine j_iald dX6_clear_5 mH_a0 rfl (by omega) (by decide) ?_
  refine j_if_ne 12 dX6_clear_6 (by decide) (fun b6 => ?_) (fun b6 => by exact absurd b6 h0)
  refine j_iload_n dX6_clear_12 rfl rfl ?_
  refine j_i2l dX6_clear_13 ?_
  refine j_lconst (0) dX6_clear_14 rfl ?_
  refine j_ldc2 (999999) dX6_clear_15 kl_X6_175 ?_
  refine j_callS (m_in3 c (nI 0) 999999 rfl rfl) dX6_clear_18 rfl ms_X6_54 ⟨(Nat.le_of_ble_eq_true rfl), (Nat.le_of_ble_eq_true rfl)⟩ ⟨(Nat.le_of_ble_eq_true rfl), (Nat.le_of_ble_eq_true rfl)⟩ (Nat.le_of_ble_eq_true rfl) ?_
  refine j_top (nI 0) (inI_no h) ?_
  refine j_if_ne 27 dX6_clear_21 (by decide) (fun h => absurd rfl h) (fun _ => ?_)
  refine j_ldc (-1000001) dX6_clear_24 kc_X6_64 ?_
  exact j_iret rfl dX6_clear_26 rfl rfl (Nat.le_of_ble_eq_true rfl) (Nat.le_of_ble_eq_true rfl)
theorem m_clear_ok (hN : sN d ≤ 7) (hu : 1 ≤ sU d) (hu2 : sU d ≤ 20) (c : Int32) (h1 : ¬ c < 0) (h2 : c ≤ 999999) : Ct G yX6_clear cX6_clear 4 (some .int) 5 0 0 z (mH σ (encT d) a1 a2 a3 a4 a5 a6 a7 a8 a9 ne a11 i0 i1 i2 i3 i4 i5 i6 i7 i8 i9 i10 i11) [.ref 171, .int c] (some (.int (nI (fstN (fun k => decide (c < sumR (gat (sD d) (sN d) (sU d) ne (sN d)).1 k + (gat (sD d) (sN d) (sU d) ne (sN d)).1 k)) (gat (sD d) (sN d) (sU d) ne (sN d)).2 0)))) z (mH σ (encT d) a1 a2 a3 a4 a5 a6 a7 a8 a9 ((gat (sD d) (sN d) (sU d) ne (sN d)).1) a11 i0 i1 i2 i3 i4 i5 i6 i7 i8 i9 (nI (gat (sD d) (sN d) (sU d) ne (sN d)).2) i11) := by
  refine Ct.ofJ RX6 rfl [some (.ref 171), some (.int c), none, none] rfl (by decide) (by simp [Value.category]) ?_
  have hle := gat_le (sD d) (sN d) (sU d) ne (sN d)
  refine j_aload_n dX6_clear_0 rfl rfl ?_
  refine j_getf dX6_clear_1 6 0 rfl (Nat.le_of_ble_eq_true rfl) fl_X6_7 in_6 mH_o rfl ?_
  refine j_iconst (nI 0) dX6_clear_4 rfl ?_
  refine j_iald dX6_clear_5 mH_a0 (k := 0) rfl (by omega) (by decide) ?_
  refine j_top (nI (sU d)) rfl ?_
  refine j_if_ne 12 dX6_clear_6 (by decide) (fun b6 => ?_) (fun b6 => by exact absurd b6 (nI_ne0 hu (by omega)))
  refine j_iload_n dX6_clear_12 rfl rfl ?_
  refine j_i2l dX6_clear_13 ?_
  refine j_lconst (0) dX6_clear_14 rfl ?_
  refine j_ldc2 (999999) dX6_clear_15 kl_X6_175 ?_
  refine j_callS (m_in3 c (nI 0) 999999 rfl rfl) dX6_clear_18 rfl ms_X6_54 ⟨(Nat.le_of_ble_eq_true rfl), (Nat.le_of_ble_eq_true rfl)⟩ ⟨(Nat.le_of_ble_eq_true rfl), (Nat.le_of_ble_eq_true rfl)⟩ (Nat.le_of_ble_eq_true rfl) ?_
  refine j_top (nI 1) (inI_yes h1 h2) ?_
  refine j_if_ne 27 dX6_clear_21 (by decide) (fun _ => ?_) (fun h => absurd h (by decide))
  refine j_aload_n dX6_clear_27 rfl rfl ?_
  refine j_callV (m_needs hN hu hu2) dX6_clear_28 rfl mv_X6_201 mH_o rfl ⟨(Nat.le_of_ble_eq_true rfl), (Nat.le_of_ble_eq_true rfl)⟩ ⟨(Nat.le_of_ble_eq_true rfl), (Nat.le_of_ble_eq_true rfl)⟩ (Nat.le_of_ble_eq_true rfl) ?_
  refine j_iconst (nI 0) dX6_clear_31 rfl ?_
  refine j_istore_n dX6_clear_32 rfl (Nat.le_of_ble_eq_true rfl) rfl ?_
  refine j_iconst (nI 0) dX6_clear_33 rfl ?_
  refine j_istore_n dX6_clear_34 rfl (Nat.le_of_ble_eq_true rfl) rfl ?_
  suffices H : ∀ (ki i : Nat), i ≤ (gat (sD d) (sN d) (sU d) ne (sN d)).2 → (gat (sD d) (sN d) (sU d) ne (sN d)).2 < i + ki → fstN (fun k => decide (c < sumR (gat (sD d) (sN d) (sU d) ne (sN d)).1 k + (gat (sD d) (sN d) (sU d) ne (sN d)).1 k)) (gat (sD d) (sN d) (sU d) ne (sN d)).2 0 = fstN (fun k => decide (c < sumR (gat (sD d) (sN d) (sU d) ne (sN d)).1 k + (gat (sD d) (sN d) (sU d) ne (sN d)).1 k)) ((gat (sD d) (sN d) (sU d) ne (sN d)).2 - i) i → J G RX6 cX6_clear 4 (some .int) (TQ G 5 0 0 (some (.int (nI (fstN (fun k => decide (c < sumR (gat (sD d) (sN d) (sU d) ne (sN d)).1 k + (gat (sD d) (sN d) (sU d) ne (sN d)).1 k)) (gat (sD d) (sN d) (sU d) ne (sN d)).2 0)))) z (mH σ (encT d) a1 a2 a3 a4 a5 a6 a7 a8 a9 ((gat (sD d) (sN d) (sU d) ne (sN d)).1) a11 i0 i1 i2 i3 i4 i5 i6 i7 i8 i9 (nI (gat (sD d) (sN d) (sU d) ne (sN d)).2) i11)) z (mH σ (encT d) a1 a2 a3 a4 a5 a6 a7 a8 a9 ((gat (sD d) (sN d) (sU d) ne (sN d)).1) a11 i0 i1 i2 i3 i4 i5 i6 i7 i8 i9 (nI (gat (sD d) (sN d) (sU d) ne (sN d)).2) i11) 0 0 35 [some (.ref 171), some (.int c), some (.int (nI i)), some (.int (sumR (gat (sD d) (sN d) (sU d) ne (sN d)).1 i))] [] from H ((gat (sD d) (sN d) (sU d) ne (sN d)).2 + 1) 0 (by omega) (by omega) rfl
  intro ki
  induction ki with
  | zero => intro i h1i h2i; exact absurd h2i (by omega)
  | succ ki ih =>
    intro i h1i h2i hf
    by_cases hi : i < (gat (sD d) (sN d) (sU d) ne (sN d)).2
    · have e1 : fstN (fun k => decide (c < sumR (gat (sD d) (sN d) (sU d) ne (sN d)).1 k + (gat (sD d) (sN d) (sU d) ne (sN d)).1 k)) ((gat (sD d) (sN d) (sU d) ne (sN d)).2 - i) i = if (decide (c < sumR (gat (sD d) (sN d) (sU d) ne (sN d)).1 i + (gat (sD d) (sN d) (sU d) ne (sN d)).1 i)) = true then i else fstN (fun k => decide (c < sumR (gat (sD d) (sN d) (sU d) ne (sN d)).1 k + (gat (sD d) (sN d) (sU d) ne (sN d)).1 k)) ((gat (sD d) (sN d) (sU d) ne (sN d)).2 - (i + 1)) (i + 1) := by
        rw [show (gat (sD d) (sN d) (sU d) ne (sN d)).2 - i = ((gat (sD d) (sN d) (sU d) ne (sN d)).2 - (i + 1)) + 1 by omega]
        rfl
      refine j_iload_n dX6_clear_35 rfl rfl ?_
      refine j_aload_n dX6_clear_36 rfl rfl ?_
      refine j_getf dX6_clear_37 6 21 rfl (Nat.le_of_ble_eq_true rfl) fl_X6_198 in_6 mH_o rfl ?_
      refine j_icmp_geN 70 dX6_clear_40 (by decide) (by omega) (by omega) (fun b40 => by exfalso; omega) (fun b40 => ?_)
      refine j_iload_n dX6_clear_43 rfl rfl ?_
      refine j_aload_n dX6_clear_44 rfl rfl ?_
      refine j_getf dX6_clear_45 6 20 rfl (Nat.le_of_ble_eq_true rfl) fl_X6_41 in_6 mH_o rfl ?_
      refine j_iload_n dX6_clear_48 rfl rfl ?_
      refine j_iald dX6_clear_49 mH_a10 rfl (by omega) (by decide) ?_
      refine j_iadd dX6_clear_50 ?_
      refine j_iload_n dX6_clear_51 rfl rfl ?_
      refine j_icmp_gt 70 dX6_clear_52 (by decide) (fun b52 => ?_) (fun b52 => ?_)
      · refine j_iload_n dX6_clear_70 rfl rfl ?_
        exact j_iret rfl dX6_clear_71 (by rw [hf, e1, if_pos (decide_eq_true b52)]) rfl (Nat.le_of_ble_eq_true rfl) (Nat.le_of_ble_eq_true rfl)
      · refine j_iload_n dX6_clear_55 rfl rfl ?_
        refine j_aload_n dX6_clear_56 rfl rfl ?_
        refine j_getf dX6_clear_57 6 20 rfl (Nat.le_of_ble_eq_true rfl) fl_X6_41 in_6 mH_o rfl ?_
        refine j_iload_n dX6_clear_60 rfl rfl ?_
        refine j_iald dX6_clear_61 mH_a10 rfl (by omega) (by decide) ?_
        refine j_iadd dX6_clear_62 ?_
        refine j_istore_n dX6_clear_63 rfl (Nat.le_of_ble_eq_true rfl) rfl ?_
        first | refine j_iincN dX6_clear_64 rfl (Nat.le_of_ble_eq_true rfl) rfl ?_ | refine j_iinc _ dX6_clear_64 rfl rfl (Nat.le_of_ble_eq_true rfl) rfl ?_
        refine j_goto 35 dX6_clear_67 (by decide) ?_
        refine ih (i + 1) (by omega) (by omega) ?_
        rw [hf, e1, if_neg (by simpa using b52)]
    · obtain rfl : i = (gat (sD d) (sN d) (sU d) ne (sN d)).2 := by omega
      refine j_iload_n dX6_clear_35 rfl rfl ?_
      refine j_aload_n dX6_clear_36 rfl rfl ?_
      refine j_getf dX6_clear_37 6 21 rfl (Nat.le_of_ble_eq_true rfl) fl_X6_198 in_6 mH_o rfl ?_
      refine j_icmp_geN 70 dX6_clear_40 (by decide) (by omega) (by omega) (fun b40 => ?_) (fun b40 => by exfalso; omega)
      refine j_iload_n dX6_clear_70 rfl rfl ?_
      exact j_iret rfl dX6_clear_71 (by rw [hf, Nat.sub_self]; rfl) rfl (Nat.le_of_ble_eq_true rfl) (Nat.le_of_ble_eq_true rfl)
theorem m_coin_state (h : a0 0 = nI 0) (c : Int32) : Ct G yX6_coin cX6_coin 4 (some .int) 5 0 0 z (mH σ a0 a1 a2 a3 a4 a5 a6 a7 a8 a9 a10 a11 i0 i1 i2 i3 i4 i5 i6 i7 i8 i9 i10 i11) [.ref 171, .int c] (some (.int (-1000002))) z (mH σ a0 a1 a2 a3 a4 a5 a6 a7 a8 a9 a10 a11 i0 i1 i2 i3 i4 i5 i6 i7 i8 i9 i10 i11) := by
  refine Ct.ofJ RX6 rfl [some (.ref 171), some (.int c), none, none] rfl (by decide) (by simp [Value.category]) ?_
  refine j_aload_n dX6_coin_0 rfl rfl ?_
  refine j_getf dX6_coin_1 6 0 rfl (Nat.le_of_ble_eq_true rfl) fl_X6_7 in_6 mH_o rfl ?_
  refine j_iconst (nI 0) dX6_coin_4 rfl ?_
  refine j_iald dX6_coin_5 mH_a0 rfl (by omega) (by decide) ?_
  refine j_top (nI 0) h ?_
  refine j_if_ne 12 dX6_coin_6 (by decide) (fun h => absurd rfl h) (fun _ => ?_)
  refine j_ldc (-1000002) dX6_coin_9 kc_X6_163 ?_
  exact j_iret rfl dX6_coin_11 rfl rfl (Nat.le_of_ble_eq_true rfl) (Nat.le_of_ble_eq_true rfl)
theorem m_coin_bad (h0 : ¬ a0 0 = 0) (c : Int32) (h : c < 0 ∨ nI 7 < c) : Ct G yX6_coin cX6_coin 4 (some .int) 5 0 0 z (mH σ a0 a1 a2 a3 a4 a5 a6 a7 a8 a9 a10 a11 i0 i1 i2 i3 i4 i5 i6 i7 i8 i9 i10 i11) [.ref 171, .int c] (some (.int (-1000001))) z (mH σ a0 a1 a2 a3 a4 a5 a6 a7 a8 a9 a10 a11 i0 i1 i2 i3 i4 i5 i6 i7 i8 i9 i10 i11) := by
  refine Ct.ofJ RX6 rfl [some (.ref 171), some (.int c), none, none] rfl (by decide) (by simp [Value.category]) ?_
  refine j_aload_n dX6_coin_0 rfl rfl ?_
  refine j_getf dX6_coin_1 6 0 rfl (Nat.le_of_ble_eq_true rfl) fl_X6_7 in_6 mH_o rfl ?_
  refine j_iconst (nI 0) dX6_coin_4 rfl ?_
  refine j_iald dX6_coin_5 mH_a0 rfl (by omega) (by decide) ?_
  refine j_if_ne 12 dX6_coin_6 (by decide) (fun b6 => ?_) (fun b6 => by exact absurd b6 h0)
  refine j_iload_n dX6_coin_12 rfl rfl ?_
  refine j_i2l dX6_coin_13 ?_
  refine j_lconst (0) dX6_coin_14 rfl ?_
  refine j_ldc2 (7) dX6_coin_15 kl_X6_52 ?_
  refine j_callS (m_in3 c (nI 0) (nI 7) rfl rfl) dX6_coin_18 rfl ms_X6_54 ⟨(Nat.le_of_ble_eq_true rfl), (Nat.le_of_ble_eq_true rfl)⟩ ⟨(Nat.le_of_ble_eq_true rfl), (Nat.le_of_ble_eq_true rfl)⟩ (Nat.le_of_ble_eq_true rfl) ?_
  refine j_top (nI 0) (inI_no h) ?_
  refine j_if_ne 27 dX6_coin_21 (by decide) (fun h => absurd rfl h) (fun _ => ?_)
  refine j_ldc (-1000001) dX6_coin_24 kc_X6_64 ?_
  exact j_iret rfl dX6_coin_26 rfl rfl (Nat.le_of_ble_eq_true rfl) (Nat.le_of_ble_eq_true rfl)
theorem m_coin_none {k : Nat} (hN : sN d ≤ 7) (hu : 1 ≤ sU d) (hu2 : sU d ≤ 20) (hk : k ≤ 7) (h : (gat (sD d) (sN d) (sU d) ne (sN d)).2 < k) : Ct G yX6_coin cX6_coin 4 (some .int) 5 0 0 z (mH σ (encT d) a1 a2 a3 a4 a5 a6 a7 a8 a9 ne a11 i0 i1 i2 i3 i4 i5 i6 i7 i8 i9 i10 i11) [.ref 171, .int (nI k)] (some (.int (-1000000))) z (mH σ (encT d) a1 a2 a3 a4 a5 a6 a7 a8 a9 ((gat (sD d) (sN d) (sU d) ne (sN d)).1) a11 i0 i1 i2 i3 i4 i5 i6 i7 i8 i9 (nI (gat (sD d) (sN d) (sU d) ne (sN d)).2) i11) := by
  refine Ct.ofJ RX6 rfl [some (.ref 171), some (.int (nI k)), none, none] rfl (by decide) (by simp [Value.category]) ?_
  have hle := gat_le (sD d) (sN d) (sU d) ne (sN d)
  refine j_aload_n dX6_coin_0 rfl rfl ?_
  refine j_getf dX6_coin_1 6 0 rfl (Nat.le_of_ble_eq_true rfl) fl_X6_7 in_6 mH_o rfl ?_
  refine j_iconst (nI 0) dX6_coin_4 rfl ?_
  refine j_iald dX6_coin_5 mH_a0 (k := 0) rfl (by omega) (by decide) ?_
  refine j_top (nI (sU d)) rfl ?_
  refine j_if_ne 12 dX6_coin_6 (by decide) (fun b6 => ?_) (fun b6 => by exact absurd b6 (nI_ne0 hu (by omega)))
  refine j_iload_n dX6_coin_12 rfl rfl ?_
  refine j_i2l dX6_coin_13 ?_
  refine j_lconst (0) dX6_coin_14 rfl ?_
  refine j_ldc2 (7) dX6_coin_15 kl_X6_52 ?_
  refine j_callS (m_in3 (nI k) (nI 0) (nI 7) rfl rfl) dX6_coin_18 rfl ms_X6_54 ⟨(Nat.le_of_ble_eq_true rfl), (Nat.le_of_ble_eq_true rfl)⟩ ⟨(Nat.le_of_ble_eq_true rfl), (Nat.le_of_ble_eq_true rfl)⟩ (Nat.le_of_ble_eq_true rfl) ?_
  refine j_top (nI 1) (inI_N (by omega) (by omega) (by omega)) ?_
  refine j_if_ne 27 dX6_coin_21 (by decide) (fun _ => ?_) (fun h => absurd h (by decide))
  refine j_aload_n dX6_coin_27 rfl rfl ?_
  refine j_callV (m_needs hN hu hu2) dX6_coin_28 rfl mv_X6_201 mH_o rfl ⟨(Nat.le_of_ble_eq_true rfl), (Nat.le_of_ble_eq_true rfl)⟩ ⟨(Nat.le_of_ble_eq_true rfl), (Nat.le_of_ble_eq_true rfl)⟩ (Nat.le_of_ble_eq_true rfl) ?_
  refine j_iconst (nI 0) dX6_coin_31 rfl ?_
  refine j_istore_n dX6_coin_32 rfl (Nat.le_of_ble_eq_true rfl) rfl ?_
  refine j_iconst (nI 0) dX6_coin_33 rfl ?_
  refine j_istore_n dX6_coin_34 rfl (Nat.le_of_ble_eq_true rfl) rfl ?_
  refine j_iload_n dX6_coin_35 rfl rfl ?_
  refine j_iload_n dX6_coin_36 rfl rfl ?_
  refine j_icmp_geN 63 dX6_coin_37 (by decide) (by omega) (by omega) (fun b37 => by exfalso; omega) (fun b37 => ?_)
  refine j_iload_n dX6_coin_40 rfl rfl ?_
  refine j_aload_n dX6_coin_41 rfl rfl ?_
  refine j_getf dX6_coin_42 6 21 rfl (Nat.le_of_ble_eq_true rfl) fl_X6_198 in_6 mH_o rfl ?_
  refine j_icmp_gtN 63 dX6_coin_45 (by decide) (by omega) (by omega) (fun b45 => ?_) (fun b45 => by exfalso; omega)
  refine j_iload_n dX6_coin_63 rfl rfl ?_
  refine j_aload_n dX6_coin_64 rfl rfl ?_
  refine j_getf dX6_coin_65 6 21 rfl (Nat.le_of_ble_eq_true rfl) fl_X6_198 in_6 mH_o rfl ?_
  refine j_icmp_gtN 75 dX6_coin_68 (by decide) (by omega) (by omega) (fun b68 => ?_) (fun b68 => by exfalso; omega)
  refine j_ldc (-1000000) dX6_coin_75 kc_X6_204 ?_
  exact j_iret rfl dX6_coin_77 rfl rfl (Nat.le_of_ble_eq_true rfl) (Nat.le_of_ble_eq_true rfl)
theorem m_coin_ok {k : Nat} (hN : sN d ≤ 7) (hu : 1 ≤ sU d) (hu2 : sU d ≤ 20) (h : k ≤ (gat (sD d) (sN d) (sU d) ne (sN d)).2) : Ct G yX6_coin cX6_coin 4 (some .int) 5 0 0 z (mH σ (encT d) a1 a2 a3 a4 a5 a6 a7 a8 a9 ne a11 i0 i1 i2 i3 i4 i5 i6 i7 i8 i9 i10 i11) [.ref 171, .int (nI k)] (some (.int (sumR (gat (sD d) (sN d) (sU d) ne (sN d)).1 k))) z (mH σ (encT d) a1 a2 a3 a4 a5 a6 a7 a8 a9 ((gat (sD d) (sN d) (sU d) ne (sN d)).1) a11 i0 i1 i2 i3 i4 i5 i6 i7 i8 i9 (nI (gat (sD d) (sN d) (sU d) ne (sN d)).2) i11) := by
  refine Ct.ofJ RX6 rfl [some (.ref 171), some (.int (nI k)), none, none] rfl (by decide) (by simp [Value.category]) ?_
  have hle := gat_le (sD d) (sN d) (sU d) ne (sN d)
  refine j_aload_n dX6_coin_0 rfl rfl ?_
  refine j_getf dX6_coin_1 6 0 rfl (Nat.le_of_ble_eq_true rfl) fl_X6_7 in_6 mH_o rfl ?_
  refine j_iconst (nI 0) dX6_coin_4 rfl ?_
  refine j_iald dX6_coin_5 mH_a0 (k := 0) rfl (by omega) (by decide) ?_
  refine j_top (nI (sU d)) rfl ?_
  refine j_if_ne 12 dX6_coin_6 (by decide) (fun b6 => ?_) (fun b6 => by exact absurd b6 (nI_ne0 hu (by omega)))
  refine j_iload_n dX6_coin_12 rfl rfl ?_
  refine j_i2l dX6_coin_13 ?_
  refine j_lconst (0) dX6_coin_14 rfl ?_
  refine j_ldc2 (7) dX6_coin_15 kl_X6_52 ?_
  refine j_callS (m_in3 (nI k) (nI 0) (nI 7) rfl rfl) dX6_coin_18 rfl ms_X6_54 ⟨(Nat.le_of_ble_eq_true rfl), (Nat.le_of_ble_eq_true rfl)⟩ ⟨(Nat.le_of_ble_eq_true rfl), (Nat.le_of_ble_eq_true rfl)⟩ (Nat.le_of_ble_eq_true rfl) ?_
  refine j_top (nI 1) (inI_N (by omega) (by omega) (by omega)) ?_
  refine j_if_ne 27 dX6_coin_21 (by decide) (fun _ => ?_) (fun h => absurd h (by decide))
  refine j_aload_n dX6_coin_27 rfl rfl ?_
  refine j_callV (m_needs hN hu hu2) dX6_coin_28 rfl mv_X6_201 mH_o rfl ⟨(Nat.le_of_ble_eq_true rfl), (Nat.le_of_ble_eq_true rfl)⟩ ⟨(Nat.le_of_ble_eq_true rfl), (Nat.le_of_ble_eq_true rfl)⟩ (Nat.le_of_ble_eq_true rfl) ?_
  refine j_iconst (nI 0) dX6_coin_31 rfl ?_
  refine j_istore_n dX6_coin_32 rfl (Nat.le_of_ble_eq_true rfl) rfl ?_
  refine j_iconst (nI 0) dX6_coin_33 rfl ?_
  refine j_istore_n dX6_coin_34 rfl (Nat.le_of_ble_eq_true rfl) rfl ?_
  suffices H : ∀ (ki i : Nat), i ≤ k → k < i + ki → J G RX6 cX6_coin 4 (some .int) (TQ G 5 0 0 (some (.int (sumR (gat (sD d) (sN d) (sU d) ne (sN d)).1 k))) z (mH σ (encT d) a1 a2 a3 a4 a5 a6 a7 a8 a9 ((gat (sD d) (sN d) (sU d) ne (sN d)).1) a11 i0 i1 i2 i3 i4 i5 i6 i7 i8 i9 (nI (gat (sD d) (sN d) (sU d) ne (sN d)).2) i11)) z (mH σ (encT d) a1 a2 a3 a4 a5 a6 a7 a8 a9 ((gat (sD d) (sN d) (sU d) ne (sN d)).1) a11 i0 i1 i2 i3 i4 i5 i6 i7 i8 i9 (nI (gat (sD d) (sN d) (sU d) ne (sN d)).2) i11) 0 0 35 [some (.ref 171), some (.int (nI k)), some (.int (sumR (gat (sD d) (sN d) (sU d) ne (sN d)).1 i)), some (.int (nI i))] [] from H (k + 1) 0 (by omega) (by omega)
  intro ki
  induction ki with
  | zero => intro i h1i h2i; exact absurd h2i (by omega)
  | succ ki ih =>
    intro i h1i h2i
    by_cases hi : i < k
    · refine j_iload_n dX6_coin_35 rfl rfl ?_
      refine j_iload_n dX6_coin_36 rfl rfl ?_
      refine j_icmp_geN 63 dX6_coin_37 (by decide) (by omega) (by omega) (fun b37 => by exfalso; omega) (fun b37 => ?_)
      refine j_iload_n dX6_coin_40 rfl rfl ?_
      refine j_aload_n dX6_coin_41 rfl rfl ?_
      refine j_getf dX6_coin_42 6 21 rfl (Nat.le_of_ble_eq_true rfl) fl_X6_198 in_6 mH_o rfl ?_
      refine j_icmp_gtN 63 dX6_coin_45 (by decide) (by omega) (by omega) (fun b45 => by exfalso; omega) (fun b45 => ?_)
      refine j_iload_n dX6_coin_48 rfl rfl ?_
      refine j_aload_n dX6_coin_49 rfl rfl ?_
      refine j_getf dX6_coin_50 6 20 rfl (Nat.le_of_ble_eq_true rfl) fl_X6_41 in_6 mH_o rfl ?_
      refine j_iload_n dX6_coin_53 rfl rfl ?_
      refine j_iald dX6_coin_54 mH_a10 rfl (by omega) (by decide) ?_
      refine j_iadd dX6_coin_55 ?_
      refine j_istore_n dX6_coin_56 rfl (Nat.le_of_ble_eq_true rfl) rfl ?_
      first | refine j_iincN dX6_coin_57 rfl (Nat.le_of_ble_eq_true rfl) rfl ?_ | refine j_iinc _ dX6_coin_57 rfl rfl (Nat.le_of_ble_eq_true rfl) rfl ?_
      refine j_goto 35 dX6_coin_60 (by decide) ?_
      exact ih (i + 1) (by omega) (by omega)
    · obtain rfl : i = k := by omega
      refine j_iload_n dX6_coin_35 rfl rfl ?_
      refine j_iload_n dX6_coin_36 rfl rfl ?_
      refine j_icmp_geN 63 dX6_coin_37 (by decide) (by omega) (by omega) (fun b37 => ?_) (fun b37 => by exfalso; omega)
      refine j_iload_n dX6_coin_63 rfl rfl ?_
      refine j_aload_n dX6_coin_64 rfl rfl ?_
      refine j_getf dX6_coin_65 6 21 rfl (Nat.le_of_ble_eq_true rfl) fl_X6_198 in_6 mH_o rfl ?_
      refine j_icmp_gtN 75 dX6_coin_68 (by decide) (by omega) (by omega) (fun b68 => by exfalso; omega) (fun b68 => ?_)
      refine j_iload_n dX6_coin_71 rfl rfl ?_
      refine j_goto 77 dX6_coin_72 (by decide) ?_
      exact j_iret rfl dX6_coin_77 rfl rfl (Nat.le_of_ble_eq_true rfl) (Nat.le_of_ble_eq_true rfl)
end MN
/-! what is struck out of debts -/
theorem upd_sw {f : Nat → Int32} {i j : Nat} {x y : Int32} (h : i ≠ j) : upd (upd f i x) j y = upd (upd f j y) i x := by
  funext k
  by_cases h1 : k = j
  · subst h1; rw [pk_us, pk_un (fun e => h e.symm), pk_us]
  · rw [pk_un h1]
    by_cases h2 : k = i
    · subst h2; rw [pk_us, pk_us]
    · rw [pk_un h2, pk_un h2, pk_un h1]
/-- the lesser of the debts of two -/
def lsr (de : Nat → Int32) (x y : Nat) : Int32 := minI (de (min x y * 7 + max x y)) (de (max x y * 7 + min x y))
theorem lsr_c (de : Nat → Int32) (x y : Nat) : lsr de x y = lsr de y x := by unfold lsr; rw [Nat.min_comm, Nat.max_comm]
/-- debts of which some pairs are struck out -/
def stkP (de D : Nat → Int32) (P : Nat → Nat → Prop) : Prop := ∀ x y, x < 7 → y < 7 → ((P x y ∧ x ≠ y) → D (x * 7 + y) = de (x * 7 + y) + -(lsr de x y)) ∧ (¬ (P x y ∧ x ≠ y) → D (x * 7 + y) = de (x * 7 + y))
theorem stkP_step {de D : Nat → Int32} {P Q : Nat → Nat → Prop} {a b : Nat} (h : stkP de D P) (ha : a < b) (hb : b < 7) (hn : ¬ P a b ∧ ¬ P b a) (hQ : ∀ x y, Q x y ↔ (P x y ∨ (x = a ∧ y = b) ∨ (x = b ∧ y = a))) {X Y : Int32} (hX : X = de (a * 7 + b) + -(lsr de a b)) (hY : Y = de (b * 7 + a) + -(lsr de a b)) : stkP de (upd (upd D (a * 7 + b) X) (b * 7 + a) Y) Q := by
  intro x y hx hy
  by_cases c1 : x = b ∧ y = a
  · obtain ⟨rfl, rfl⟩ := c1
    refine ⟨fun _ => ?_, fun w => absurd ⟨(hQ _ _).mpr (Or.inr (Or.inr ⟨rfl, rfl⟩)), by omega⟩ w⟩
    rw [pk_us, hY, lsr_c]
  · rw [pk_un (by omega)]
    by_cases c2 : x = a ∧ y = b
    · obtain ⟨rfl, rfl⟩ := c2
      refine ⟨fun _ => ?_, fun w => absurd ⟨(hQ _ _).mpr (Or.inr (Or.inl ⟨rfl, rfl⟩)), by omega⟩ w⟩
      rw [pk_us, hX]
    · rw [pk_un (by omega)]
      refine ⟨fun w => (h x y hx hy).1 ⟨?_, w.2⟩, fun w => (h x y hx hy).2 (fun w2 => w ⟨(hQ _ _).mpr (Or.inl w2.1), w2.2⟩)⟩
      rcases (hQ _ _).mp w.1 with q | q | q
      · exact q
      · exact absurd q c2
      · exact absurd q c1
theorem stkP_un {de D : Nat → Int32} {P : Nat → Nat → Prop} {x y : Nat} (h : stkP de D P) (hx : x < 7) (hy : y < 7) (hn : ¬ P x y) : D (x * 7 + y) = de (x * 7 + y) := (h x y hx hy).2 (fun w => hn w.1)
theorem stkP_iff {de D : Nat → Int32} {P Q : Nat → Nat → Prop} (h : stkP de D P) (hQ : ∀ x y, x < 7 → y < 7 → x ≠ y → (Q x y ↔ P x y)) : stkP de D Q := by
  intro x y hx hy
  refine ⟨fun w => (h x y hx hy).1 ⟨(hQ x y hx hy w.2).mp w.1, w.2⟩, fun w => (h x y hx hy).2 (fun w2 => w ⟨(hQ x y hx hy w2.2).mpr w2.1, w2.2⟩)⟩
theorem lsr_ab {de : Nat → Int32} {a b : Nat} (h : a < b) : lsr de a b = minI (de (a * 7 + b)) (de (b * 7 + a)) := by
  unfold lsr; rw [Nat.min_eq_left (by omega), Nat.max_eq_right (by omega)]
/-- what the class strikes out -/
theorem strB_P {de : Nat → Int32} {a N : Nat} {s : (Nat → Int32) × Int32} (h : stkP de s.1 (fun x y => min x y < a ∧ max x y < N)) : ∀ {k : Nat}, a + 1 + k ≤ 7 → stkP de (strB a s k).1 (fun x y => (min x y < a ∧ max x y < N) ∨ (min x y = a ∧ max x y < a + 1 + k)) ∧ (strB a s k).2 = s.2 + sumR (fun j => nI 2 * lsr de a (a + 1 + j)) k
  | 0, _ => ⟨stkP_iff h (fun x y _ _ hne => ⟨fun w => w.elim id (fun w => absurd w (by omega)), fun w => Or.inl w⟩), (Int32.add_zero _).symm⟩
  | k + 1, hk => by
    have ih := strB_P h (k := k) (by omega)
    have e1 : (strB a s k).1 (a * 7 + (a + 1 + k)) = de (a * 7 + (a + 1 + k)) := stkP_un ih.1 (by omega) (by omega) (by omega)
    have e2 : (strB a s k).1 ((a + 1 + k) * 7 + a) = de ((a + 1 + k) * 7 + a) := stkP_un ih.1 (by omega) (by omega) (by omega)
    have el : minI ((strB a s k).1 (a * 7 + (a + 1 + k))) ((strB a s k).1 ((a + 1 + k) * 7 + a)) = lsr de a (a + 1 + k) := by rw [e1, e2, lsr_ab (by omega)]
    have e3 : ∀ X : Int32, upd (strB a s k).1 (a * 7 + (a + 1 + k)) X ((a + 1 + k) * 7 + a) = de ((a + 1 + k) * 7 + a) := fun X => (pk_un (by omega)).trans e2
    have eq : strB a s (k + 1) = (upd (upd (strB a s k).1 (a * 7 + (a + 1 + k)) ((strB a s k).1 (a * 7 + (a + 1 + k)) + -(minI ((strB a s k).1 (a * 7 + (a + 1 + k))) ((strB a s k).1 ((a + 1 + k) * 7 + a))))) ((a + 1 + k) * 7 + a) (upd (strB a s k).1 (a * 7 + (a + 1 + k)) ((strB a s k).1 (a * 7 + (a + 1 + k)) + -(minI ((strB a s k).1 (a * 7 + (a + 1 + k))) ((strB a s k).1 ((a + 1 + k) * 7 + a)))) ((a + 1 + k) * 7 + a) + -(minI ((strB a s k).1 (a * 7 + (a + 1 + k))) ((strB a s k).1 ((a + 1 + k) * 7 + a)))), (strB a s k).2 + nI 2 * minI ((strB a s k).1 (a * 7 + (a + 1 + k))) ((strB a s k).1 ((a + 1 + k) * 7 + a))) := rfl
    rw [eq, el, e3]
    refine ⟨stkP_step ih.1 (a := a) (b := a + 1 + k) (by omega) (by omega) (by constructor <;> omega) (fun x y => by omega) (by rw [e1]) rfl, ?_⟩
    show (strB a s k).2 + nI 2 * lsr de a (a + 1 + k) = s.2 + (sumR (fun j => nI 2 * lsr de a (a + 1 + j)) k + nI 2 * lsr de a (a + 1 + k))
    rw [ih.2, Int32.add_assoc]
theorem strA_P {de : Nat → Int32} {N : Nat} (hN : N ≤ 7) : ∀ {a : Nat}, a ≤ N → stkP de (strA N de a).1 (fun x y => min x y < a ∧ max x y < N) ∧ (strA N de a).2 = sumR (fun i => sumR (fun j => nI 2 * lsr de i (i + 1 + j)) (N - (i + 1))) a
  | 0, _ => ⟨fun x y _ _ => ⟨fun w => absurd w.1.1 (by omega), fun _ => rfl⟩, rfl⟩
  | a + 1, ha => by
    have ih := strA_P (de := de) hN (a := a) (by omega)
    have k := strB_P (N := N) ih.1 (k := N - (a + 1)) (by omega)
    have e : strA N de (a + 1) = strB a (strA N de a) (N - (a + 1)) := rfl
    rw [e]
    refine ⟨stkP_iff k.1 (fun x y _ _ _ => by omega), ?_⟩
    rw [k.2, ih.2]
    rfl
/-- the same sum, by the greater of two -/
theorem sum_tri {g : Nat → Nat → Int32} (N : Nat) : ∀ {m : Nat}, m ≤ N → sumR (fun i => sumR (fun j => g i (i + 1 + j)) (N + 1 - (i + 1))) m = sumR (fun i => sumR (fun j => g i (i + 1 + j)) (N - (i + 1))) m + sumR (fun i => g i N) m
  | 0, _ => (Int32.add_zero _).symm
  | m + 1, h => by
    have ih := sum_tri (g := g) N (m := m) (by omega)
    show sumR _ m + sumR (fun j => g m (m + 1 + j)) (N + 1 - (m + 1)) = (sumR _ m + sumR (fun j => g m (m + 1 + j)) (N - (m + 1))) + (sumR (fun i => g i N) m + g m N)
    rw [ih, show N + 1 - (m + 1) = (N - (m + 1)) + 1 by omega]
    show _ + (sumR (fun j => g m (m + 1 + j)) (N - (m + 1)) + g m (m + 1 + (N - (m + 1)))) = _
    rw [show m + 1 + (N - (m + 1)) = N by omega]
    ac_rfl
theorem sum_tri2 {g : Nat → Nat → Int32} : ∀ {N : Nat}, sumR (fun i => sumR (fun j => g i (i + 1 + j)) (N - (i + 1))) N = sumR (fun i => sumR (fun j => g j i) i) N
  | 0 => rfl
  | N + 1 => by
    show sumR (fun i => sumR (fun j => g i (i + 1 + j)) (N + 1 - (i + 1))) N + sumR (fun j => g N (N + 1 + j)) (N + 1 - (N + 1)) = sumR (fun i => sumR (fun j => g j i) i) N + sumR (fun j => g j N) N
    rw [sum_tri N (Nat.le_refl N), sum_tri2 (N := N), Nat.sub_self]
    exact Int32.add_zero _
theorem dsum_ext {de d2 : Nat → Int32} {N p : Nat} (h : ∀ b, b < N → de (p * 7 + b) = d2 (p * 7 + b)) : dsum de N p = dsum d2 N p := sumR_ext h
theorem shd_ext {de d2 : Nat → Int32} {N u p : Nat} (h : ∀ b, b < N → de (p * 7 + b) = d2 (p * 7 + b)) : shd de N u p = shd d2 N u p := by unfold shd; rw [dsum_ext h]
theorem plI_ext {de d1 d2 : Nat → Int32} {N u : Nat} (h : ∀ a b, a < N → b < N → d1 (a * 7 + b) = d2 (a * 7 + b)) : ∀ {k : Nat}, k ≤ N → plI de d1 N u k = plI de d2 N u k
  | 0, _ => rfl
  | k + 1, hk => by
    show (if shd de N u k ≤ shd d1 N u k then plI de d1 N u k else orI (plI de d1 N u k) k) = (if shd de N u k ≤ shd d2 N u k then plI de d2 N u k else orI (plI de d2 N u k) k)
    rw [plI_ext h (k := k) (by omega), shd_ext (fun b hb => h k b (by omega) hb)]
section MHI
variable {G : GG} {z : Nat} {σ : AH} {a0 a1 a2 a3 a4 a5 a6 a7 a8 a9 a10 a11 : Nat → Int32} {i0 i1 i2 i3 i4 i5 i6 i7 i8 i9 i10 i11 : Int32} {d : TS}
theorem m_hiding_state (h : a0 0 = nI 0) (c : Int32) : Ct G yX6_hiding cX6_hiding 8 (some .int) 5 0 0 z (mH σ a0 a1 a2 a3 a4 a5 a6 a7 a8 a9 a10 a11 i0 i1 i2 i3 i4 i5 i6 i7 i8 i9 i10 i11) [.ref 171, .int c] (some (.int (-1000002))) z (mH σ a0 a1 a2 a3 a4 a5 a6 a7 a8 a9 a10 a11 i0 i1 i2 i3 i4 i5 i6 i7 i8 i9 i10 i11) := by
  refine Ct.ofJ RX6 rfl [some (.ref 171), some (.int c), none, none, none, none, none, none] rfl (by decide) (by simp [Value.category]) ?_
  refine j_aload_n dX6_hiding_0 rfl rfl ?_
  refine j_getf dX6_hiding_1 6 0 rfl (Nat.le_of_ble_eq_true rfl) fl_X6_7 in_6 mH_o rfl ?_
  refine j_iconst (nI 0) dX6_hiding_4 rfl ?_
  refine j_iald dX6_hiding_5 mH_a0 rfl (by omega) (by decide) ?_
  refine j_top (nI 0) h ?_
  refine j_if_ne 12 dX6_hiding_6 (by decide) (fun h => absurd rfl h) (fun _ => ?_)
  refine j_ldc (-1000002) dX6_hiding_9 kc_X6_163 ?_
  exact j_iret rfl dX6_hiding_11 rfl rfl (Nat.le_of_ble_eq_true rfl) (Nat.le_of_ble_eq_true rfl)
theorem m_hiding_bad (h0 : ¬ a0 0 = 0) (c : Int32) (h : c < 0 ∨ nI 1 < c) : Ct G yX6_hiding cX6_hiding 8 (some .int) 5 0 0 z (mH σ a0 a1 a2 a3 a4 a5 a6 a7 a8 a9 a10 a11 i0 i1 i2 i3 i4 i5 i6 i7 i8 i9 i10 i11) [.ref 171, .int c] (some (.int (-1000001))) z (mH σ a0 a1 a2 a3 a4 a5 a6 a7 a8 a9 a10 a11 i0 i1 i2 i3 i4 i5 i6 i7 i8 i9 i10 i11) := by
  refine Ct.ofJ RX6 rfl [some (.ref 171), some (.int c), none, none, none, none, none, none] rfl (by decide) (by simp [Value.category]) ?_
  refine j_aload_n dX6_hiding_0 rfl rfl ?_
  refine j_getf dX6_hiding_1 6 0 rfl (Nat.le_of_ble_eq_true rfl) fl_X6_7 in_6 mH_o rfl ?_
  refine j_iconst (nI 0) dX6_hiding_4 rfl ?_
  refine j_iald dX6_hiding_5 mH_a0 rfl (by omega) (by decide) ?_
  refine j_if_ne 12 dX6_hiding_6 (by decide) (fun b6 => ?_) (fun b6 => by exact absurd b6 h0)
  refine j_iload_n dX6_hiding_12 rfl rfl ?_
  refine j_i2l dX6_hiding_13 ?_
  refine j_lconst (0) dX6_hiding_14 rfl ?_
  refine j_lconst (1) dX6_hiding_15 rfl ?_
  refine j_callS (m_in3 c (nI 0) (nI 1) rfl rfl) dX6_hiding_16 rfl ms_X6_54 ⟨(Nat.le_of_ble_eq_true rfl), (Nat.le_of_ble_eq_true rfl)⟩ ⟨(Nat.le_of_ble_eq_true rfl), (Nat.le_of_ble_eq_true rfl)⟩ (Nat.le_of_ble_eq_true rfl) ?_
  refine j_top (nI 0) (inI_no h) ?_
  refine j_if_ne 25 dX6_hiding_19 (by decide) (fun h => absurd rfl h) (fun _ => ?_)
  refine j_ldc (-1000001) dX6_hiding_22 kc_X6_64 ?_
  exact j_iret rfl dX6_hiding_24 rfl rfl (Nat.le_of_ble_eq_true rfl) (Nat.le_of_ble_eq_true rfl)
theorem m_hiding_ok {w : Nat} (hN : sN d ≤ 7) (hu : 1 ≤ sU d) (hu2 : sU d ≤ 20) (hw : w ≤ 1) : Ct G yX6_hiding cX6_hiding 8 (some .int) 5 0 0 z (mH σ (encT d) a1 a2 a3 a4 a5 a6 a7 a8 a9 a10 a11 i0 i1 i2 i3 i4 i5 i6 i7 i8 i9 i10 i11) [.ref 171, .int (nI w)] (some (.int (if w = 1 then (strA (sN d) (sD d) (sN d)).2 else plI (sD d) (strA (sN d) (sD d) (sN d)).1 (sN d) (sU d) (sN d)))) z (mH σ (encT d) (encT (sC d, sI d, sP d, (strA (sN d) (sD d) (sN d)).1, sN d, sU d, sR d, sQ d, sH d, sF d)) a2 a3 a4 a5 a6 a7 a8 a9 a10 a11 i0 i1 i2 i3 i4 i5 i6 i7 i8 i9 i10 i11) := by
  refine Ct.ofJ RX6 rfl [some (.ref 171), some (.int (nI w)), none, none, none, none, none, none] rfl (by decide) (by simp [Value.category]) ?_
  have hstr := strA_P (de := sD d) hN (Nat.le_refl (sN d))
  have k2 : ∀ (kk i : Nat) (D : Nat → Int32) (o5 o6 o7 : Option Value), i ≤ sN d → sN d < i + kk → (∀ a b, a < sN d → b < sN d → D (a * 7 + b) = (strA (sN d) (sD d) (sN d)).1 (a * 7 + b)) → J G RX6 cX6_hiding 8 (some .int) (TQ G 5 0 0 (some (.int (if w = 1 then (strA (sN d) (sD d) (sN d)).2 else plI (sD d) (strA (sN d) (sD d) (sN d)).1 (sN d) (sU d) (sN d)))) z (mH σ (encT d) (encT (sC d, sI d, sP d, (strA (sN d) (sD d) (sN d)).1, sN d, sU d, sR d, sQ d, sH d, sF d)) a2 a3 a4 a5 a6 a7 a8 a9 a10 a11 i0 i1 i2 i3 i4 i5 i6 i7 i8 i9 i10 i11)) z (mH σ (encT d) (encT (sC d, sI d, sP d, D, sN d, sU d, sR d, sQ d, sH d, sF d)) a2 a3 a4 a5 a6 a7 a8 a9 a10 a11 i0 i1 i2 i3 i4 i5 i6 i7 i8 i9 i10 i11) 0 0 166 [some (.ref 171), some (.int (nI w)), some (.int (strA (sN d) (sD d) (sN d)).2), some (.int (plI (sD d) D (sN d) (sU d) i)), some (.int (nI i)), o5, o6, o7] [] := by
    intro kk
    induction kk with
    | zero => intro i D o5 o6 o7 h1 h2; exact absurd h2 (by omega)
    | succ kk ih =>
      intro i D o5 o6 o7 h1 h2 hD
      by_cases hi : i < sN d
      · have e1 : plI (sD d) D (sN d) (sU d) (i + 1) = if shd (sD d) (sN d) (sU d) i ≤ shd D (sN d) (sU d) i then plI (sD d) D (sN d) (sU d) i else orI (plI (sD d) D (sN d) (sU d) i) i := rfl
        refine j_iload dX6_hiding_166 rfl ?_
        refine j_aload_n dX6_hiding_168 rfl rfl ?_
        refine j_getf dX6_hiding_169 6 0 rfl (Nat.le_of_ble_eq_true rfl) fl_X6_7 in_6 mH_o rfl ?_
        refine j_iconst (nI 2) dX6_hiding_172 rfl ?_
        refine j_iald dX6_hiding_173 mH_a0 (k := 2) rfl (by omega) (by decide) ?_
        refine j_top (nI (sN d)) rfl ?_
        refine j_icmp_geN 215 dX6_hiding_174 (by decide) (by omega) (by omega) (fun b174 => by exfalso; omega) (fun b174 => ?_)
        refine j_iload_n dX6_hiding_177 rfl rfl ?_
        refine j_aload_n dX6_hiding_178 rfl rfl ?_
        refine j_getf dX6_hiding_179 6 1 rfl (Nat.le_of_ble_eq_true rfl) fl_X6_13 in_6 mH_o rfl ?_
        refine j_iload dX6_hiding_182 rfl ?_
        refine j_callS (m_shadeIn (d := (sC d, sI d, sP d, D, sN d, sU d, sR d, sQ d, sH d, sF d)) mH_a1 hN hi hu hu2) dX6_hiding_184 rfl ms_X6_155 ⟨(Nat.le_of_ble_eq_true rfl), (Nat.le_of_ble_eq_true rfl)⟩ ⟨(Nat.le_of_ble_eq_true rfl), (Nat.le_of_ble_eq_true rfl)⟩ (Nat.le_of_ble_eq_true rfl) ?_
        refine j_aload_n dX6_hiding_187 rfl rfl ?_
        refine j_getf dX6_hiding_188 6 0 rfl (Nat.le_of_ble_eq_true rfl) fl_X6_7 in_6 mH_o rfl ?_
        refine j_iload dX6_hiding_191 rfl ?_
        refine j_callS (m_shadeIn (d := d) mH_a0 hN hi hu hu2) dX6_hiding_193 rfl ms_X6_155 ⟨(Nat.le_of_ble_eq_true rfl), (Nat.le_of_ble_eq_true rfl)⟩ ⟨(Nat.le_of_ble_eq_true rfl), (Nat.le_of_ble_eq_true rfl)⟩ (Nat.le_of_ble_eq_true rfl) ?_
        refine j_icmp_ge 206 dX6_hiding_196 (by decide) (fun b196 => ?_) (fun b196 => ?_)
        · refine j_iconst (nI 0) dX6_hiding_206 rfl ?_
          refine j_ior dX6_hiding_207 ?_
          refine j_top (plI (sD d) D (sN d) (sU d) (i + 1)) (by rw [e1]; first | (rw [if_pos b196]; exact or_z _) | (rw [if_neg b196]; rfl) | done) ?_
          refine j_istore_n dX6_hiding_208 rfl (Nat.le_of_ble_eq_true rfl) rfl ?_
          first | refine j_iincN dX6_hiding_209 rfl (Nat.le_of_ble_eq_true rfl) rfl ?_ | refine j_iinc _ dX6_hiding_209 rfl rfl (Nat.le_of_ble_eq_true rfl) rfl ?_
          refine j_goto 166 dX6_hiding_212 (by decide) ?_
          exact ih (i + 1) _ _ _ _ (by omega) (by omega) hD
        · refine j_iconst (nI 1) dX6_hiding_199 rfl ?_
          refine j_iload dX6_hiding_200 rfl ?_
          refine j_ishl dX6_hiding_202 ?_
          refine j_goto 207 dX6_hiding_203 (by decide) ?_
          refine j_ior dX6_hiding_207 ?_
          refine j_top (plI (sD d) D (sN d) (sU d) (i + 1)) (by rw [e1]; first | (rw [if_pos b196]; exact or_z _) | (rw [if_neg b196]; rfl) | done) ?_
          refine j_istore_n dX6_hiding_208 rfl (Nat.le_of_ble_eq_true rfl) rfl ?_
          first | refine j_iincN dX6_hiding_209 rfl (Nat.le_of_ble_eq_true rfl) rfl ?_ | refine j_iinc _ dX6_hiding_209 rfl rfl (Nat.le_of_ble_eq_true rfl) rfl ?_
          refine j_goto 166 dX6_hiding_212 (by decide) ?_
          exact ih (i + 1) _ _ _ _ (by omega) (by omega) hD
      · obtain rfl : i = sN d := by omega
        have eH : encT (sC d, sI d, sP d, D, sN d, sU d, sR d, sQ d, sH d, sF d) = encT (sC d, sI d, sP d, (strA (sN d) (sD d) (sN d)).1, sN d, sU d, sR d, sQ d, sH d, sF d) := enc_ext (fun _ _ => rfl) (fun _ _ => rfl) (fun _ _ => rfl) hD (fun _ _ => rfl) (fun _ _ => rfl)
        have eP := plI_ext (de := sD d) (u := sU d) hD (Nat.le_refl (sN d))
        refine j_iload dX6_hiding_166 rfl ?_
        refine j_aload_n dX6_hiding_168 rfl rfl ?_
        refine j_getf dX6_hiding_169 6 0 rfl (Nat.le_of_ble_eq_true rfl) fl_X6_7 in_6 mH_o rfl ?_
        refine j_iconst (nI 2) dX6_hiding_172 rfl ?_
        refine j_iald dX6_hiding_173 mH_a0 (k := 2) rfl (by omega) (by decide) ?_
        refine j_top (nI (sN d)) rfl ?_
        refine j_icmp_geN 215 dX6_hiding_174 (by decide) (by omega) (by omega) (fun b174 => ?_) (fun b174 => by exfalso; omega)
        refine j_iload_n dX6_hiding_215 rfl rfl ?_
        refine j_if_ne 223 dX6_hiding_216 (by decide) (fun b216 => ?_) (fun b216 => ?_)
        · refine j_iload_n dX6_hiding_223 rfl rfl ?_
          exact j_iret rfl dX6_hiding_224 (by first | rw [if_neg (fun e => by subst e; exact absurd b216 (by decide)), eP] | rw [if_pos (show w = 1 from (show w = 0 ∨ w = 1 by omega).elim (fun q => absurd (by rw [q]; rfl) b216) id)] | done) (by rw [eH]) (Nat.le_of_ble_eq_true rfl) (Nat.le_of_ble_eq_true rfl)
        · refine j_iload_n dX6_hiding_219 rfl rfl ?_
          refine j_goto 224 dX6_hiding_220 (by decide) ?_
          exact j_iret rfl dX6_hiding_224 (by first | rw [if_neg (fun e => by subst e; exact absurd b216 (by decide)), eP] | rw [if_pos (show w = 1 from (show w = 0 ∨ w = 1 by omega).elim (fun q => absurd (by rw [q]; rfl) b216) id)] | done) (by rw [eH]) (Nat.le_of_ble_eq_true rfl) (Nat.le_of_ble_eq_true rfl)
  have k1 : ∀ (kk i : Nat) (D : Nat → Int32) (o4 o5 o6 o7 : Option Value), i ≤ sN d → sN d < i + kk → stkP (sD d) D (fun x y => max x y < i) → J G RX6 cX6_hiding 8 (some .int) (TQ G 5 0 0 (some (.int (if w = 1 then (strA (sN d) (sD d) (sN d)).2 else plI (sD d) (strA (sN d) (sD d) (sN d)).1 (sN d) (sU d) (sN d)))) z (mH σ (encT d) (encT (sC d, sI d, sP d, (strA (sN d) (sD d) (sN d)).1, sN d, sU d, sR d, sQ d, sH d, sF d)) a2 a3 a4 a5 a6 a7 a8 a9 a10 a11 i0 i1 i2 i3 i4 i5 i6 i7 i8 i9 i10 i11)) z (mH σ (encT d) (encT (sC d, sI d, sP d, D, sN d, sU d, sR d, sQ d, sH d, sF d)) a2 a3 a4 a5 a6 a7 a8 a9 a10 a11 i0 i1 i2 i3 i4 i5 i6 i7 i8 i9 i10 i11) 0 0 33 [some (.ref 171), some (.int (nI w)), some (.int (sumR (fun i => sumR (fun j => nI 2 * lsr (sD d) j i) i) i)), some (.int (nI i)), o4, o5, o6, o7] [] := by
    intro kk
    induction kk with
    | zero => intro i D o4 o5 o6 o7 h1 h2; exact absurd h2 (by omega)
    | succ kk ih =>
      intro i D o4 o5 o6 o7 h1 h2 hD
      by_cases hi : i < sN d
      · refine j_iload_n dX6_hiding_33 rfl rfl ?_
        refine j_aload_n dX6_hiding_34 rfl rfl ?_
        refine j_getf dX6_hiding_35 6 0 rfl (Nat.le_of_ble_eq_true rfl) fl_X6_7 in_6 mH_o rfl ?_
        refine j_iconst (nI 2) dX6_hiding_38 rfl ?_
        refine j_iald dX6_hiding_39 mH_a0 (k := 2) rfl (by omega) (by decide) ?_
        refine j_top (nI (sN d)) rfl ?_
        refine j_icmp_geN 161 dX6_hiding_40 (by decide) (by omega) (by omega) (fun b40 => by exfalso; omega) (fun b40 => ?_)
        refine j_iconst (nI 0) dX6_hiding_43 rfl ?_
        refine j_istore dX6_hiding_44 (Nat.le_of_ble_eq_true rfl) rfl ?_
        skip
        suffices H : ∀ (kk b : Nat) (D : Nat → Int32) (o5 o6 o7 : Option Value), b ≤ i → i < b + kk → stkP (sD d) D (fun x y => max x y < i ∨ (max x y = i ∧ min x y < b)) → J G RX6 cX6_hiding 8 (some .int) (TQ G 5 0 0 (some (.int (if w = 1 then (strA (sN d) (sD d) (sN d)).2 else plI (sD d) (strA (sN d) (sD d) (sN d)).1 (sN d) (sU d) (sN d)))) z (mH σ (encT d) (encT (sC d, sI d, sP d, (strA (sN d) (sD d) (sN d)).1, sN d, sU d, sR d, sQ d, sH d, sF d)) a2 a3 a4 a5 a6 a7 a8 a9 a10 a11 i0 i1 i2 i3 i4 i5 i6 i7 i8 i9 i10 i11)) z (mH σ (encT d) (encT (sC d, sI d, sP d, D, sN d, sU d, sR d, sQ d, sH d, sF d)) a2 a3 a4 a5 a6 a7 a8 a9 a10 a11 i0 i1 i2 i3 i4 i5 i6 i7 i8 i9 i10 i11) 0 0 46 [some (.ref 171), some (.int (nI w)), some (.int (sumR (fun i => sumR (fun j => nI 2 * lsr (sD d) j i) i) i + sumR (fun j => nI 2 * lsr (sD d) j i) b)), some (.int (nI i)), some (.int (nI b)), o5, o6, o7] [] from (by
          have hH := H (i + 1) 0 D o5 o6 o7 (by omega) (by omega) (stkP_iff hD (fun x y _ _ _ => by omega))
          rw [show sumR (fun i => sumR (fun j => nI 2 * lsr (sD d) j i) i) i + sumR (fun j => nI 2 * lsr (sD d) j i) 0 = sumR (fun i => sumR (fun j => nI 2 * lsr (sD d) j i) i) i from Int32.add_zero _] at hH
          exact hH)
        intro kk2
        induction kk2 with
        | zero => intro b D o5 o6 o7 h1 h2; exact absurd h2 (by omega)
        | succ kk2 ih2 =>
          intro b D o5 o6 o7 h1b h2b hD
          by_cases hb : b < i
          · have e1 : D (i * 7 + b) = sD d (i * 7 + b) := stkP_un hD (by omega) (by omega) (by omega)
            have e2 : D (b * 7 + i) = sD d (b * 7 + i) := stkP_un hD (by omega) (by omega) (by omega)
            have el : lsr (sD d) b i = minI (sD d (b * 7 + i)) (sD d (i * 7 + b)) := lsr_ab hb
            suffices HH : ∀ v : Int32, v = lsr (sD d) b i → J G RX6 cX6_hiding 8 (some .int) (TQ G 5 0 0 (some (.int (if w = 1 then (strA (sN d) (sD d) (sN d)).2 else plI (sD d) (strA (sN d) (sD d) (sN d)).1 (sN d) (sU d) (sN d)))) z (mH σ (encT d) (encT (sC d, sI d, sP d, (strA (sN d) (sD d) (sN d)).1, sN d, sU d, sR d, sQ d, sH d, sF d)) a2 a3 a4 a5 a6 a7 a8 a9 a10 a11 i0 i1 i2 i3 i4 i5 i6 i7 i8 i9 i10 i11)) z (mH σ (encT d) (encT (sC d, sI d, sP d, D, sN d, sU d, sR d, sQ d, sH d, sF d)) a2 a3 a4 a5 a6 a7 a8 a9 a10 a11 i0 i1 i2 i3 i4 i5 i6 i7 i8 i9 i10 i11) 0 0 100 [some (.ref 171), some (.int (nI w)), some (.int (sumR (fun i => sumR (fun j => nI 2 * lsr (sD d) j i) i) i + sumR (fun j => nI 2 * lsr (sD d) j i) b)), some (.int (nI i)), some (.int (nI b)), some (.int (sD d (i * 7 + b))), some (.int (sD d (b * 7 + i))), o7] [.int v] by
              refine j_iload dX6_hiding_46 rfl ?_
              refine j_iload_n dX6_hiding_48 rfl rfl ?_
              refine j_icmp_geN 155 dX6_hiding_49 (by decide) (by omega) (by omega) (fun b49 => by exfalso; omega) (fun b49 => ?_)
              refine j_aload_n dX6_hiding_52 rfl rfl ?_
              refine j_getf dX6_hiding_53 6 1 rfl (Nat.le_of_ble_eq_true rfl) fl_X6_13 in_6 mH_o rfl ?_
              refine j_bipush (nI 40) dX6_hiding_56 rfl ?_
              refine j_bipush (nI 7) dX6_hiding_58 rfl ?_
              refine j_iload_n dX6_hiding_60 rfl rfl ?_
              first | refine j_imulN dX6_hiding_61 ?_ | refine j_imul dX6_hiding_61 ?_
              first | refine j_iaddN dX6_hiding_62 ?_ | refine j_iadd dX6_hiding_62 ?_
              refine j_iload dX6_hiding_63 rfl ?_
              first | refine j_iaddN dX6_hiding_65 ?_ | refine j_iadd dX6_hiding_65 ?_
              refine j_iald dX6_hiding_66 mH_a1 rfl (by omega) (by decide) ?_
              refine j_top (sD d (i * 7 + b)) ((enc_d (d := (sC d, sI d, sP d, D, sN d, sU d, sR d, sQ d, sH d, sF d)) hN hi (show b < sN d by omega)).trans e1) ?_
              refine j_istore dX6_hiding_67 (Nat.le_of_ble_eq_true rfl) rfl ?_
              refine j_aload_n dX6_hiding_69 rfl rfl ?_
              refine j_getf dX6_hiding_70 6 1 rfl (Nat.le_of_ble_eq_true rfl) fl_X6_13 in_6 mH_o rfl ?_
              refine j_bipush (nI 40) dX6_hiding_73 rfl ?_
              refine j_bipush (nI 7) dX6_hiding_75 rfl ?_
              refine j_iload dX6_hiding_77 rfl ?_
              first | refine j_imulN dX6_hiding_79 ?_ | refine j_imul dX6_hiding_79 ?_
              first | refine j_iaddN dX6_hiding_80 ?_ | refine j_iadd dX6_hiding_80 ?_
              refine j_iload_n dX6_hiding_81 rfl rfl ?_
              first | refine j_iaddN dX6_hiding_82 ?_ | refine j_iadd dX6_hiding_82 ?_
              refine j_iald dX6_hiding_83 mH_a1 rfl (by omega) (by decide) ?_
              refine j_top (sD d (b * 7 + i)) ((enc_d (d := (sC d, sI d, sP d, D, sN d, sU d, sR d, sQ d, sH d, sF d)) hN (show b < sN d by omega) hi).trans e2) ?_
              refine j_istore dX6_hiding_84 (Nat.le_of_ble_eq_true rfl) rfl ?_
              refine j_iload dX6_hiding_86 rfl ?_
              refine j_iload dX6_hiding_88 rfl ?_
              refine j_icmp_ge 98 dX6_hiding_90 (by decide) (fun b90 => ?_) (fun b90 => ?_)
              · refine j_iload dX6_hiding_98 rfl ?_
                exact HH _ (by rw [el]; unfold minI; first | rw [if_neg (Int32.not_lt.mpr b90)] | rw [if_pos (Int32.not_le.mp b90)] | done)
              · refine j_iload dX6_hiding_93 rfl ?_
                refine j_goto 100 dX6_hiding_95 (by decide) ?_
                exact HH _ (by rw [el]; unfold minI; first | rw [if_neg (Int32.not_lt.mpr b90)] | rw [if_pos (Int32.not_le.mp b90)] | done)
            intro v hv
            refine j_istore dX6_hiding_100 (Nat.le_of_ble_eq_true rfl) rfl ?_
            refine j_aload_n dX6_hiding_102 rfl rfl ?_
            refine j_getf dX6_hiding_103 6 1 rfl (Nat.le_of_ble_eq_true rfl) fl_X6_13 in_6 mH_o rfl ?_
            refine j_bipush (nI 40) dX6_hiding_106 rfl ?_
            refine j_bipush (nI 7) dX6_hiding_108 rfl ?_
            refine j_iload_n dX6_hiding_110 rfl rfl ?_
            first | refine j_imulN dX6_hiding_111 ?_ | refine j_imul dX6_hiding_111 ?_
            first | refine j_iaddN dX6_hiding_112 ?_ | refine j_iadd dX6_hiding_112 ?_
            refine j_iload dX6_hiding_113 rfl ?_
            first | refine j_iaddN dX6_hiding_115 ?_ | refine j_iadd dX6_hiding_115 ?_
            refine j_iload dX6_hiding_116 rfl ?_
            refine j_iload dX6_hiding_118 rfl ?_
            refine j_isub dX6_hiding_120 ?_
            refine j_iast dX6_hiding_121 mH_a1 rfl (by omega) (by decide) _ (mH_t1 (enc_wD (d := (sC d, sI d, sP d, D, sN d, sU d, sR d, sQ d, sH d, sF d)) hN hi (show b < sN d by omega))) ?_
            refine j_aload_n dX6_hiding_122 rfl rfl ?_
            refine j_getf dX6_hiding_123 6 1 rfl (Nat.le_of_ble_eq_true rfl) fl_X6_13 in_6 mH_o rfl ?_
            refine j_bipush (nI 40) dX6_hiding_126 rfl ?_
            refine j_bipush (nI 7) dX6_hiding_128 rfl ?_
            refine j_iload dX6_hiding_130 rfl ?_
            first | refine j_imulN dX6_hiding_132 ?_ | refine j_imul dX6_hiding_132 ?_
            first | refine j_iaddN dX6_hiding_133 ?_ | refine j_iadd dX6_hiding_133 ?_
            refine j_iload_n dX6_hiding_134 rfl rfl ?_
            first | refine j_iaddN dX6_hiding_135 ?_ | refine j_iadd dX6_hiding_135 ?_
            refine j_iload dX6_hiding_136 rfl ?_
            refine j_iload dX6_hiding_138 rfl ?_
            refine j_isub dX6_hiding_140 ?_
            refine j_iast dX6_hiding_141 mH_a1 rfl (by omega) (by decide) _ (mH_t1 (enc_wD (d := wD (sC d, sI d, sP d, D, sN d, sU d, sR d, sQ d, sH d, sF d) _) hN (show b < sN d by omega) hi)) ?_
            refine j_iload_n dX6_hiding_142 rfl rfl ?_
            refine j_iconst (nI 2) dX6_hiding_143 rfl ?_
            refine j_iload dX6_hiding_144 rfl ?_
            refine j_imul dX6_hiding_146 ?_
            refine j_iadd dX6_hiding_147 ?_
            refine j_top (sumR (fun i => sumR (fun j => nI 2 * lsr (sD d) j i) i) i + sumR (fun j => nI 2 * lsr (sD d) j i) (b + 1)) (by rw [hv]; exact Int32.add_assoc _ _ _) ?_
            refine j_istore_n dX6_hiding_148 rfl (Nat.le_of_ble_eq_true rfl) rfl ?_
            first | refine j_iincN dX6_hiding_149 rfl (Nat.le_of_ble_eq_true rfl) rfl ?_ | refine j_iinc _ dX6_hiding_149 rfl rfl (Nat.le_of_ble_eq_true rfl) rfl ?_
            refine j_goto 46 dX6_hiding_152 (by decide) ?_
            refine ih2 (b + 1) _ _ _ _ (by omega) (by omega) ?_
            rw [show upd (upd D (i * 7 + b) (sD d (i * 7 + b) - v)) (b * 7 + i) (sD d (b * 7 + i) - v) = upd (upd D (b * 7 + i) (sD d (b * 7 + i) - v)) (i * 7 + b) (sD d (i * 7 + b) - v) from upd_sw (by omega)]
            exact stkP_step hD (a := b) (b := i) hb (by omega) (by constructor <;> omega) (fun x y => by omega) (by rw [hv, Int32.sub_eq_add_neg]) (by rw [hv, Int32.sub_eq_add_neg])
          · obtain rfl : b = i := by omega
            refine j_iload dX6_hiding_46 rfl ?_
            refine j_iload_n dX6_hiding_48 rfl rfl ?_
            refine j_icmp_geN 155 dX6_hiding_49 (by decide) (by omega) (by omega) (fun b49 => ?_) (fun b49 => by exfalso; omega)
            first | refine j_iincN dX6_hiding_155 rfl (Nat.le_of_ble_eq_true rfl) rfl ?_ | refine j_iinc _ dX6_hiding_155 rfl rfl (Nat.le_of_ble_eq_true rfl) rfl ?_
            refine j_goto 33 dX6_hiding_158 (by decide) ?_
            exact ih (b + 1) _ _ _ _ _ (by omega) (by omega) (stkP_iff hD (fun x y _ _ _ => by omega))
      · obtain rfl : i = sN d := by omega
        have hDD : ∀ a b, a < sN d → b < sN d → D (a * 7 + b) = (strA (sN d) (sD d) (sN d)).1 (a * 7 + b) := by
          intro a b ha hb
          have q1 := hD a b (by omega) (by omega)
          have q2 := hstr.1 a b (by omega) (by omega)
          by_cases e : a = b
          · rw [q1.2 (fun w => w.2 e), q2.2 (fun w => w.2 e)]
          · rw [q1.1 ⟨by omega, e⟩, q2.1 ⟨⟨by omega, by omega⟩, e⟩]
        have eS : sumR (fun i => sumR (fun j => nI 2 * lsr (sD d) j i) i) (sN d) = (strA (sN d) (sD d) (sN d)).2 := by
          rw [hstr.2]; exact (sum_tri2 (g := fun x y => nI 2 * lsr (sD d) x y)).symm
        rw [eS]
        refine j_iload_n dX6_hiding_33 rfl rfl ?_
        refine j_aload_n dX6_hiding_34 rfl rfl ?_
        refine j_getf dX6_hiding_35 6 0 rfl (Nat.le_of_ble_eq_true rfl) fl_X6_7 in_6 mH_o rfl ?_
        refine j_iconst (nI 2) dX6_hiding_38 rfl ?_
        refine j_iald dX6_hiding_39 mH_a0 (k := 2) rfl (by omega) (by decide) ?_
        refine j_top (nI (sN d)) rfl ?_
        refine j_icmp_geN 161 dX6_hiding_40 (by decide) (by omega) (by omega) (fun b40 => ?_) (fun b40 => by exfalso; omega)
        refine j_iconst (nI 0) dX6_hiding_161 rfl ?_
        refine j_istore_n dX6_hiding_162 rfl (Nat.le_of_ble_eq_true rfl) rfl ?_
        refine j_iconst (nI 0) dX6_hiding_163 rfl ?_
        refine j_istore dX6_hiding_164 (Nat.le_of_ble_eq_true rfl) rfl ?_
        exact k2 (sN d + 1) 0 D _ _ _ (by omega) (by omega) hDD
  refine j_aload_n dX6_hiding_0 rfl rfl ?_
  refine j_getf dX6_hiding_1 6 0 rfl (Nat.le_of_ble_eq_true rfl) fl_X6_7 in_6 mH_o rfl ?_
  refine j_iconst (nI 0) dX6_hiding_4 rfl ?_
  refine j_iald dX6_hiding_5 mH_a0 (k := 0) rfl (by omega) (by decide) ?_
  refine j_top (nI (sU d)) rfl ?_
  refine j_if_ne 12 dX6_hiding_6 (by decide) (fun b6 => ?_) (fun b6 => by exact absurd b6 (nI_ne0 hu (by omega)))
  refine j_iload_n dX6_hiding_12 rfl rfl ?_
  refine j_i2l dX6_hiding_13 ?_
  refine j_lconst (0) dX6_hiding_14 rfl ?_
  refine j_lconst (1) dX6_hiding_15 rfl ?_
  refine j_callS (m_in3 (nI w) (nI 0) (nI 1) rfl rfl) dX6_hiding_16 rfl ms_X6_54 ⟨(Nat.le_of_ble_eq_true rfl), (Nat.le_of_ble_eq_true rfl)⟩ ⟨(Nat.le_of_ble_eq_true rfl), (Nat.le_of_ble_eq_true rfl)⟩ (Nat.le_of_ble_eq_true rfl) ?_
  refine j_top (nI 1) (inI_N (by omega) (by omega) (by omega)) ?_
  refine j_if_ne 25 dX6_hiding_19 (by decide) (fun _ => ?_) (fun h => absurd h (by decide))
  refine j_aload_n dX6_hiding_25 rfl rfl ?_
  refine j_callV m_tries dX6_hiding_26 rfl mv_X6_195 mH_o rfl ⟨(Nat.le_of_ble_eq_true rfl), (Nat.le_of_ble_eq_true rfl)⟩ ⟨(Nat.le_of_ble_eq_true rfl), (Nat.le_of_ble_eq_true rfl)⟩ (Nat.le_of_ble_eq_true rfl) ?_
  refine j_iconst (nI 0) dX6_hiding_29 rfl ?_
  refine j_istore_n dX6_hiding_30 rfl (Nat.le_of_ble_eq_true rfl) rfl ?_
  refine j_iconst (nI 0) dX6_hiding_31 rfl ?_
  refine j_istore_n dX6_hiding_32 rfl (Nat.le_of_ble_eq_true rfl) rfl ?_
  exact k1 (sN d + 1) 0 (sD d) _ _ _ _ (by omega) (by omega) (fun x y _ _ => ⟨fun w => absurd w.1 (by omega), fun _ => rfl⟩)
end MHI

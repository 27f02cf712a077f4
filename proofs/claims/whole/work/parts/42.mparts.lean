/-! THE MODEL's helpers -/
theorem dX6_in_0 : decode cX6_in 0 = .ok (.lload_n 0, 1) := by decide +kernel
theorem dX6_in_1 : decode cX6_in 1 = .ok (.lload_n 2, 1) := by decide +kernel
theorem dX6_in_2 : decode cX6_in 2 = .ok (.lcmp, 1) := by decide +kernel
theorem dX6_in_3 : decode cX6_in 3 = .ok (.ifCond .lt 14, 3) := by decide +kernel
theorem dX6_in_6 : decode cX6_in 6 = .ok (.lload_n 0, 1) := by decide +kernel
theorem dX6_in_7 : decode cX6_in 7 = .ok (.lload 4, 2) := by decide +kernel
theorem dX6_in_9 : decode cX6_in 9 = .ok (.lcmp, 1) := by decide +kernel
theorem dX6_in_10 : decode cX6_in 10 = .ok (.ifCond .gt 7, 3) := by decide +kernel
theorem dX6_in_13 : decode cX6_in 13 = .ok (.iconst 1, 1) := by decide +kernel
theorem dX6_in_14 : decode cX6_in 14 = .ok (.goto 4, 3) := by decide +kernel
theorem dX6_in_17 : decode cX6_in 17 = .ok (.iconst 0, 1) := by decide +kernel
theorem dX6_in_18 : decode cX6_in 18 = .ok (.ireturn, 1) := by decide +kernel
theorem dX6_isRow_0 : decode cX6_isRow 0 = .ok (.iload_n 0, 1) := by decide +kernel
theorem dX6_isRow_1 : decode cX6_isRow 1 = .ok (.i2l, 1) := by decide +kernel
theorem dX6_isRow_2 : decode cX6_isRow 2 = .ok (.lconst 0, 1) := by decide +kernel
theorem dX6_isRow_3 : decode cX6_isRow 3 = .ok (.ldc2_w 52, 3) := by decide +kernel
theorem dX6_isRow_6 : decode cX6_isRow 6 = .ok (.invokestatic 54, 3) := by decide +kernel
theorem dX6_isRow_9 : decode cX6_isRow 9 = .ok (.ireturn, 1) := by decide +kernel
theorem dX6_finds_0 : decode cX6_finds 0 = .ok (.aload_n 0, 1) := by decide +kernel
theorem dX6_finds_1 : decode cX6_finds 1 = .ok (.iload_n 1, 1) := by decide +kernel
theorem dX6_finds_2 : decode cX6_finds 2 = .ok (.putfield 47, 3) := by decide +kernel
theorem dX6_finds_5 : decode cX6_finds 5 = .ok (.ldc 51, 2) := by decide +kernel
theorem dX6_finds_7 : decode cX6_finds 7 = .ok (.iload_n 1, 1) := by decide +kernel
theorem dX6_finds_8 : decode cX6_finds 8 = .ok (.isub, 1) := by decide +kernel
theorem dX6_finds_9 : decode cX6_finds 9 = .ok (.ireturn, 1) := by decide +kernel
theorem dX6_fine_0 : decode cX6_fine 0 = .ok (.aload_n 0, 1) := by decide +kernel
theorem dX6_fine_1 : decode cX6_fine 1 = .ok (.iconst 0, 1) := by decide +kernel
theorem dX6_fine_2 : decode cX6_fine 2 = .ok (.putfield 47, 3) := by decide +kernel
theorem dX6_fine_5 : decode cX6_fine 5 = .ok (.iload_n 1, 1) := by decide +kernel
theorem dX6_fine_6 : decode cX6_fine 6 = .ok (.ireturn, 1) := by decide +kernel
theorem dX6_isOne_0 : decode cX6_isOne 0 = .ok (.iload_n 1, 1) := by decide +kernel
theorem dX6_isOne_1 : decode cX6_isOne 1 = .ok (.i2l, 1) := by decide +kernel
theorem dX6_isOne_2 : decode cX6_isOne 2 = .ok (.lconst 0, 1) := by decide +kernel
theorem dX6_isOne_3 : decode cX6_isOne 3 = .ok (.aload_n 0, 1) := by decide +kernel
theorem dX6_isOne_4 : decode cX6_isOne 4 = .ok (.getfield 7, 3) := by decide +kernel
theorem dX6_isOne_7 : decode cX6_isOne 7 = .ok (.iconst 2, 1) := by decide +kernel
theorem dX6_isOne_8 : decode cX6_isOne 8 = .ok (.iaload, 1) := by decide +kernel
theorem dX6_isOne_9 : decode cX6_isOne 9 = .ok (.iconst 1, 1) := by decide +kernel
theorem dX6_isOne_10 : decode cX6_isOne 10 = .ok (.isub, 1) := by decide +kernel
theorem dX6_isOne_11 : decode cX6_isOne 11 = .ok (.i2l, 1) := by decide +kernel
theorem dX6_isOne_12 : decode cX6_isOne 12 = .ok (.invokestatic 54, 3) := by decide +kernel
theorem dX6_isOne_15 : decode cX6_isOne 15 = .ok (.ireturn, 1) := by decide +kernel
theorem dX6_areTwo_0 : decode cX6_areTwo 0 = .ok (.aload_n 0, 1) := by decide +kernel
theorem dX6_areTwo_1 : decode cX6_areTwo 1 = .ok (.iload_n 1, 1) := by decide +kernel
theorem dX6_areTwo_2 : decode cX6_areTwo 2 = .ok (.invokevirtual 148, 3) := by decide +kernel
theorem dX6_areTwo_5 : decode cX6_areTwo 5 = .ok (.ifCond .eq 20, 3) := by decide +kernel
theorem dX6_areTwo_8 : decode cX6_areTwo 8 = .ok (.aload_n 0, 1) := by decide +kernel
theorem dX6_areTwo_9 : decode cX6_areTwo 9 = .ok (.iload_n 2, 1) := by decide +kernel
theorem dX6_areTwo_10 : decode cX6_areTwo 10 = .ok (.invokevirtual 148, 3) := by decide +kernel
theorem dX6_areTwo_13 : decode cX6_areTwo 13 = .ok (.ifCond .eq 12, 3) := by decide +kernel
theorem dX6_areTwo_16 : decode cX6_areTwo 16 = .ok (.iload_n 1, 1) := by decide +kernel
theorem dX6_areTwo_17 : decode cX6_areTwo 17 = .ok (.iload_n 2, 1) := by decide +kernel
theorem dX6_areTwo_18 : decode cX6_areTwo 18 = .ok (.if_icmp .eq 7, 3) := by decide +kernel
theorem dX6_areTwo_21 : decode cX6_areTwo 21 = .ok (.iconst 1, 1) := by decide +kernel
theorem dX6_areTwo_22 : decode cX6_areTwo 22 = .ok (.goto 4, 3) := by decide +kernel
theorem dX6_areTwo_25 : decode cX6_areTwo 25 = .ok (.iconst 0, 1) := by decide +kernel
theorem dX6_areTwo_26 : decode cX6_areTwo 26 = .ok (.ireturn, 1) := by decide +kernel
theorem dX6_owedIn_0 : decode cX6_owedIn 0 = .ok (.iconst 0, 1) := by decide +kernel
theorem dX6_owedIn_1 : decode cX6_owedIn 1 = .ok (.istore_n 2, 1) := by decide +kernel
theorem dX6_owedIn_2 : decode cX6_owedIn 2 = .ok (.iconst 0, 1) := by decide +kernel
theorem dX6_owedIn_3 : decode cX6_owedIn 3 = .ok (.istore_n 3, 1) := by decide +kernel
theorem dX6_owedIn_4 : decode cX6_owedIn 4 = .ok (.iload_n 3, 1) := by decide +kernel
theorem dX6_owedIn_5 : decode cX6_owedIn 5 = .ok (.bipush 7, 2) := by decide +kernel
theorem dX6_owedIn_7 : decode cX6_owedIn 7 = .ok (.if_icmp .ge 23, 3) := by decide +kernel
theorem dX6_owedIn_10 : decode cX6_owedIn 10 = .ok (.iload_n 2, 1) := by decide +kernel
theorem dX6_owedIn_11 : decode cX6_owedIn 11 = .ok (.aload_n 0, 1) := by decide +kernel
theorem dX6_owedIn_12 : decode cX6_owedIn 12 = .ok (.bipush 40, 2) := by decide +kernel
theorem dX6_owedIn_14 : decode cX6_owedIn 14 = .ok (.bipush 7, 2) := by decide +kernel
theorem dX6_owedIn_16 : decode cX6_owedIn 16 = .ok (.iload_n 1, 1) := by decide +kernel
theorem dX6_owedIn_17 : decode cX6_owedIn 17 = .ok (.imul, 1) := by decide +kernel
theorem dX6_owedIn_18 : decode cX6_owedIn 18 = .ok (.iadd, 1) := by decide +kernel
theorem dX6_owedIn_19 : decode cX6_owedIn 19 = .ok (.iload_n 3, 1) := by decide +kernel
theorem dX6_owedIn_20 : decode cX6_owedIn 20 = .ok (.iadd, 1) := by decide +kernel
theorem dX6_owedIn_21 : decode cX6_owedIn 21 = .ok (.iaload, 1) := by decide +kernel
theorem dX6_owedIn_22 : decode cX6_owedIn 22 = .ok (.iadd, 1) := by decide +kernel
theorem dX6_owedIn_23 : decode cX6_owedIn 23 = .ok (.istore_n 2, 1) := by decide +kernel
theorem dX6_owedIn_24 : decode cX6_owedIn 24 = .ok (.iinc 3 1, 3) := by decide +kernel
theorem dX6_owedIn_27 : decode cX6_owedIn 27 = .ok (.goto (-23), 3) := by decide +kernel
theorem dX6_owedIn_30 : decode cX6_owedIn 30 = .ok (.iload_n 2, 1) := by decide +kernel
theorem dX6_owedIn_31 : decode cX6_owedIn 31 = .ok (.ireturn, 1) := by decide +kernel
theorem dX6_shadeIn_0 : decode cX6_shadeIn 0 = .ok (.aload_n 0, 1) := by decide +kernel
theorem dX6_shadeIn_1 : decode cX6_shadeIn 1 = .ok (.iload_n 1, 1) := by decide +kernel
theorem dX6_shadeIn_2 : decode cX6_shadeIn 2 = .ok (.invokestatic 151, 3) := by decide +kernel
theorem dX6_shadeIn_5 : decode cX6_shadeIn 5 = .ok (.aload_n 0, 1) := by decide +kernel
theorem dX6_shadeIn_6 : decode cX6_shadeIn 6 = .ok (.iconst 0, 1) := by decide +kernel
theorem dX6_shadeIn_7 : decode cX6_shadeIn 7 = .ok (.iaload, 1) := by decide +kernel
theorem dX6_shadeIn_8 : decode cX6_shadeIn 8 = .ok (.idiv, 1) := by decide +kernel
theorem dX6_shadeIn_9 : decode cX6_shadeIn 9 = .ok (.istore_n 2, 1) := by decide +kernel
theorem dX6_shadeIn_10 : decode cX6_shadeIn 10 = .ok (.iload_n 2, 1) := by decide +kernel
theorem dX6_shadeIn_11 : decode cX6_shadeIn 11 = .ok (.bipush 9, 2) := by decide +kernel
theorem dX6_shadeIn_13 : decode cX6_shadeIn 13 = .ok (.if_icmp .le 8, 3) := by decide +kernel
theorem dX6_shadeIn_16 : decode cX6_shadeIn 16 = .ok (.bipush 9, 2) := by decide +kernel
theorem dX6_shadeIn_18 : decode cX6_shadeIn 18 = .ok (.goto 4, 3) := by decide +kernel
theorem dX6_shadeIn_21 : decode cX6_shadeIn 21 = .ok (.iload_n 2, 1) := by decide +kernel
theorem dX6_shadeIn_22 : decode cX6_shadeIn 22 = .ok (.ireturn, 1) := by decide +kernel
theorem dX6_looks_0 : decode cX6_looks 0 = .ok (.aload_n 0, 1) := by decide +kernel
theorem dX6_looks_1 : decode cX6_looks 1 = .ok (.getfield 7, 3) := by decide +kernel
theorem dX6_looks_4 : decode cX6_looks 4 = .ok (.bipush 25, 2) := by decide +kernel
theorem dX6_looks_6 : decode cX6_looks 6 = .ok (.iload_n 1, 1) := by decide +kernel
theorem dX6_looks_7 : decode cX6_looks 7 = .ok (.iadd, 1) := by decide +kernel
theorem dX6_looks_8 : decode cX6_looks 8 = .ok (.iaload, 1) := by decide +kernel
theorem dX6_looks_9 : decode cX6_looks 9 = .ok (.bipush 10, 2) := by decide +kernel
theorem dX6_looks_11 : decode cX6_looks 11 = .ok (.if_icmp .ge 15, 3) := by decide +kernel
theorem dX6_looks_14 : decode cX6_looks 14 = .ok (.aload_n 0, 1) := by decide +kernel
theorem dX6_looks_15 : decode cX6_looks 15 = .ok (.getfield 7, 3) := by decide +kernel
theorem dX6_looks_18 : decode cX6_looks 18 = .ok (.bipush 25, 2) := by decide +kernel
theorem dX6_looks_20 : decode cX6_looks 20 = .ok (.iload_n 1, 1) := by decide +kernel
theorem dX6_looks_21 : decode cX6_looks 21 = .ok (.iadd, 1) := by decide +kernel
theorem dX6_looks_22 : decode cX6_looks 22 = .ok (.iaload, 1) := by decide +kernel
theorem dX6_looks_23 : decode cX6_looks 23 = .ok (.goto 11, 3) := by decide +kernel
theorem dX6_looks_26 : decode cX6_looks 26 = .ok (.aload_n 0, 1) := by decide +kernel
theorem dX6_looks_27 : decode cX6_looks 27 = .ok (.getfield 7, 3) := by decide +kernel
theorem dX6_looks_30 : decode cX6_looks 30 = .ok (.iload_n 1, 1) := by decide +kernel
theorem dX6_looks_31 : decode cX6_looks 31 = .ok (.invokestatic 155, 3) := by decide +kernel
theorem dX6_looks_34 : decode cX6_looks 34 = .ok (.ireturn, 1) := by decide +kernel
theorem dX6_netOf_0 : decode cX6_netOf 0 = .ok (.aload_n 0, 1) := by decide +kernel
theorem dX6_netOf_1 : decode cX6_netOf 1 = .ok (.getfield 7, 3) := by decide +kernel
theorem dX6_netOf_4 : decode cX6_netOf 4 = .ok (.iload_n 1, 1) := by decide +kernel
theorem dX6_netOf_5 : decode cX6_netOf 5 = .ok (.invokestatic 151, 3) := by decide +kernel
theorem dX6_netOf_8 : decode cX6_netOf 8 = .ok (.ineg, 1) := by decide +kernel
theorem dX6_netOf_9 : decode cX6_netOf 9 = .ok (.istore_n 2, 1) := by decide +kernel
theorem dX6_netOf_10 : decode cX6_netOf 10 = .ok (.iconst 0, 1) := by decide +kernel
theorem dX6_netOf_11 : decode cX6_netOf 11 = .ok (.istore_n 3, 1) := by decide +kernel
theorem dX6_netOf_12 : decode cX6_netOf 12 = .ok (.iload_n 3, 1) := by decide +kernel
theorem dX6_netOf_13 : decode cX6_netOf 13 = .ok (.bipush 7, 2) := by decide +kernel
theorem dX6_netOf_15 : decode cX6_netOf 15 = .ok (.if_icmp .ge 26, 3) := by decide +kernel
theorem dX6_netOf_18 : decode cX6_netOf 18 = .ok (.iload_n 2, 1) := by decide +kernel
theorem dX6_netOf_19 : decode cX6_netOf 19 = .ok (.aload_n 0, 1) := by decide +kernel
theorem dX6_netOf_20 : decode cX6_netOf 20 = .ok (.getfield 7, 3) := by decide +kernel
theorem dX6_netOf_23 : decode cX6_netOf 23 = .ok (.bipush 40, 2) := by decide +kernel
theorem dX6_netOf_25 : decode cX6_netOf 25 = .ok (.bipush 7, 2) := by decide +kernel
theorem dX6_netOf_27 : decode cX6_netOf 27 = .ok (.iload_n 3, 1) := by decide +kernel
theorem dX6_netOf_28 : decode cX6_netOf 28 = .ok (.imul, 1) := by decide +kernel
theorem dX6_netOf_29 : decode cX6_netOf 29 = .ok (.iadd, 1) := by decide +kernel
theorem dX6_netOf_30 : decode cX6_netOf 30 = .ok (.iload_n 1, 1) := by decide +kernel
theorem dX6_netOf_31 : decode cX6_netOf 31 = .ok (.iadd, 1) := by decide +kernel
theorem dX6_netOf_32 : decode cX6_netOf 32 = .ok (.iaload, 1) := by decide +kernel
theorem dX6_netOf_33 : decode cX6_netOf 33 = .ok (.iadd, 1) := by decide +kernel
theorem dX6_netOf_34 : decode cX6_netOf 34 = .ok (.istore_n 2, 1) := by decide +kernel
theorem dX6_netOf_35 : decode cX6_netOf 35 = .ok (.iinc 3 1, 3) := by decide +kernel
theorem dX6_netOf_38 : decode cX6_netOf 38 = .ok (.goto (-26), 3) := by decide +kernel
theorem dX6_netOf_41 : decode cX6_netOf 41 = .ok (.iload_n 2, 1) := by decide +kernel
theorem dX6_netOf_42 : decode cX6_netOf 42 = .ok (.ireturn, 1) := by decide +kernel
theorem dX6_leaves_0 : decode cX6_leaves 0 = .ok (.aload_n 0, 1) := by decide +kernel
theorem dX6_leaves_1 : decode cX6_leaves 1 = .ok (.getfield 210, 3) := by decide +kernel
theorem dX6_leaves_4 : decode cX6_leaves 4 = .ok (.bipush 16, 2) := by decide +kernel
theorem dX6_leaves_6 : decode cX6_leaves 6 = .ok (.if_icmp .ge 23, 3) := by decide +kernel
theorem dX6_leaves_9 : decode cX6_leaves 9 = .ok (.aload_n 0, 1) := by decide +kernel
theorem dX6_leaves_10 : decode cX6_leaves 10 = .ok (.getfield 44, 3) := by decide +kernel
theorem dX6_leaves_13 : decode cX6_leaves 13 = .ok (.aload_n 0, 1) := by decide +kernel
theorem dX6_leaves_14 : decode cX6_leaves 14 = .ok (.getfield 210, 3) := by decide +kernel
theorem dX6_leaves_17 : decode cX6_leaves 17 = .ok (.iload_n 1, 1) := by decide +kernel
theorem dX6_leaves_18 : decode cX6_leaves 18 = .ok (.iastore, 1) := by decide +kernel
theorem dX6_leaves_19 : decode cX6_leaves 19 = .ok (.aload_n 0, 1) := by decide +kernel
theorem dX6_leaves_20 : decode cX6_leaves 20 = .ok (.dup, 1) := by decide +kernel
theorem dX6_leaves_21 : decode cX6_leaves 21 = .ok (.getfield 210, 3) := by decide +kernel
theorem dX6_leaves_24 : decode cX6_leaves 24 = .ok (.iconst 1, 1) := by decide +kernel
theorem dX6_leaves_25 : decode cX6_leaves 25 = .ok (.iadd, 1) := by decide +kernel
theorem dX6_leaves_26 : decode cX6_leaves 26 = .ok (.putfield 210, 3) := by decide +kernel
theorem dX6_leaves_29 : decode cX6_leaves 29 = .ok (.return_, 1) := by decide +kernel
theorem dX6_tries_0 : decode cX6_tries 0 = .ok (.iconst 0, 1) := by decide +kernel
theorem dX6_tries_1 : decode cX6_tries 1 = .ok (.istore_n 1, 1) := by decide +kernel
theorem dX6_tries_2 : decode cX6_tries 2 = .ok (.iload_n 1, 1) := by decide +kernel
theorem dX6_tries_3 : decode cX6_tries 3 = .ok (.bipush 96, 2) := by decide +kernel
theorem dX6_tries_5 : decode cX6_tries 5 = .ok (.if_icmp .ge 21, 3) := by decide +kernel
theorem dX6_tries_8 : decode cX6_tries 8 = .ok (.aload_n 0, 1) := by decide +kernel
theorem dX6_tries_9 : decode cX6_tries 9 = .ok (.getfield 13, 3) := by decide +kernel
theorem dX6_tries_12 : decode cX6_tries 12 = .ok (.iload_n 1, 1) := by decide +kernel
theorem dX6_tries_13 : decode cX6_tries 13 = .ok (.aload_n 0, 1) := by decide +kernel
theorem dX6_tries_14 : decode cX6_tries 14 = .ok (.getfield 7, 3) := by decide +kernel
theorem dX6_tries_17 : decode cX6_tries 17 = .ok (.iload_n 1, 1) := by decide +kernel
theorem dX6_tries_18 : decode cX6_tries 18 = .ok (.iaload, 1) := by decide +kernel
theorem dX6_tries_19 : decode cX6_tries 19 = .ok (.iastore, 1) := by decide +kernel
theorem dX6_tries_20 : decode cX6_tries 20 = .ok (.iinc 1 1, 3) := by decide +kernel
theorem dX6_tries_23 : decode cX6_tries 23 = .ok (.goto (-21), 3) := by decide +kernel
theorem dX6_tries_26 : decode cX6_tries 26 = .ok (.return_, 1) := by decide +kernel
theorem dX6_kindOf_0 : decode cX6_kindOf 0 = .ok (.aload_n 0, 1) := by decide +kernel
theorem dX6_kindOf_1 : decode cX6_kindOf 1 = .ok (.getfield 7, 3) := by decide +kernel
theorem dX6_kindOf_4 : decode cX6_kindOf 4 = .ok (.bipush 32, 2) := by decide +kernel
theorem dX6_kindOf_6 : decode cX6_kindOf 6 = .ok (.iload_n 1, 1) := by decide +kernel
theorem dX6_kindOf_7 : decode cX6_kindOf 7 = .ok (.iadd, 1) := by decide +kernel
theorem dX6_kindOf_8 : decode cX6_kindOf 8 = .ok (.iaload, 1) := by decide +kernel
theorem dX6_kindOf_9 : decode cX6_kindOf 9 = .ok (.iconst 1, 1) := by decide +kernel
theorem dX6_kindOf_10 : decode cX6_kindOf 10 = .ok (.if_icmp .ne 5, 3) := by decide +kernel
theorem dX6_kindOf_13 : decode cX6_kindOf 13 = .ok (.iconst 3, 1) := by decide +kernel
theorem dX6_kindOf_14 : decode cX6_kindOf 14 = .ok (.ireturn, 1) := by decide +kernel
theorem dX6_kindOf_15 : decode cX6_kindOf 15 = .ok (.aload_n 0, 1) := by decide +kernel
theorem dX6_kindOf_16 : decode cX6_kindOf 16 = .ok (.getfield 7, 3) := by decide +kernel
theorem dX6_kindOf_19 : decode cX6_kindOf 19 = .ok (.iload_n 1, 1) := by decide +kernel
theorem dX6_kindOf_20 : decode cX6_kindOf 20 = .ok (.invokestatic 151, 3) := by decide +kernel
theorem dX6_kindOf_23 : decode cX6_kindOf 23 = .ok (.ifCond .le 22, 3) := by decide +kernel
theorem dX6_kindOf_26 : decode cX6_kindOf 26 = .ok (.aload_n 0, 1) := by decide +kernel
theorem dX6_kindOf_27 : decode cX6_kindOf 27 = .ok (.getfield 7, 3) := by decide +kernel
theorem dX6_kindOf_30 : decode cX6_kindOf 30 = .ok (.iload_n 1, 1) := by decide +kernel
theorem dX6_kindOf_31 : decode cX6_kindOf 31 = .ok (.invokestatic 155, 3) := by decide +kernel
theorem dX6_kindOf_34 : decode cX6_kindOf 34 = .ok (.bipush 7, 2) := by decide +kernel
theorem dX6_kindOf_36 : decode cX6_kindOf 36 = .ok (.if_icmp .lt 7, 3) := by decide +kernel
theorem dX6_kindOf_39 : decode cX6_kindOf 39 = .ok (.iconst 2, 1) := by decide +kernel
theorem dX6_kindOf_40 : decode cX6_kindOf 40 = .ok (.goto 4, 3) := by decide +kernel
theorem dX6_kindOf_43 : decode cX6_kindOf 43 = .ok (.iconst 1, 1) := by decide +kernel
theorem dX6_kindOf_44 : decode cX6_kindOf 44 = .ok (.ireturn, 1) := by decide +kernel
theorem dX6_kindOf_45 : decode cX6_kindOf 45 = .ok (.aload_n 0, 1) := by decide +kernel
theorem dX6_kindOf_46 : decode cX6_kindOf 46 = .ok (.iload_n 1, 1) := by decide +kernel
theorem dX6_kindOf_47 : decode cX6_kindOf 47 = .ok (.invokevirtual 186, 3) := by decide +kernel
theorem dX6_kindOf_50 : decode cX6_kindOf 50 = .ok (.ifCond .le 7, 3) := by decide +kernel
theorem dX6_kindOf_53 : decode cX6_kindOf 53 = .ok (.iconst 5, 1) := by decide +kernel
theorem dX6_kindOf_54 : decode cX6_kindOf 54 = .ok (.goto 4, 3) := by decide +kernel
theorem dX6_kindOf_57 : decode cX6_kindOf 57 = .ok (.iconst 4, 1) := by decide +kernel
theorem dX6_kindOf_58 : decode cX6_kindOf 58 = .ok (.ireturn, 1) := by decide +kernel
theorem dX6_pays_0 : decode cX6_pays 0 = .ok (.iconst 0, 1) := by decide +kernel
theorem dX6_pays_1 : decode cX6_pays 1 = .ok (.istore_n 2, 1) := by decide +kernel
theorem dX6_pays_2 : decode cX6_pays 2 = .ok (.iconst 0, 1) := by decide +kernel
theorem dX6_pays_3 : decode cX6_pays 3 = .ok (.istore_n 3, 1) := by decide +kernel
theorem dX6_pays_4 : decode cX6_pays 4 = .ok (.iload_n 3, 1) := by decide +kernel
theorem dX6_pays_5 : decode cX6_pays 5 = .ok (.aload_n 0, 1) := by decide +kernel
theorem dX6_pays_6 : decode cX6_pays 6 = .ok (.iconst 2, 1) := by decide +kernel
theorem dX6_pays_7 : decode cX6_pays 7 = .ok (.iaload, 1) := by decide +kernel
theorem dX6_pays_8 : decode cX6_pays 8 = .ok (.if_icmp .ge 85, 3) := by decide +kernel
theorem dX6_pays_11 : decode cX6_pays 11 = .ok (.aload_n 0, 1) := by decide +kernel
theorem dX6_pays_12 : decode cX6_pays 12 = .ok (.bipush 40, 2) := by decide +kernel
theorem dX6_pays_14 : decode cX6_pays 14 = .ok (.bipush 7, 2) := by decide +kernel
theorem dX6_pays_16 : decode cX6_pays 16 = .ok (.iload_n 1, 1) := by decide +kernel
theorem dX6_pays_17 : decode cX6_pays 17 = .ok (.imul, 1) := by decide +kernel
theorem dX6_pays_18 : decode cX6_pays 18 = .ok (.iadd, 1) := by decide +kernel
theorem dX6_pays_19 : decode cX6_pays 19 = .ok (.iload_n 3, 1) := by decide +kernel
theorem dX6_pays_20 : decode cX6_pays 20 = .ok (.iadd, 1) := by decide +kernel
theorem dX6_pays_21 : decode cX6_pays 21 = .ok (.iaload, 1) := by decide +kernel
theorem dX6_pays_22 : decode cX6_pays 22 = .ok (.istore 4, 2) := by decide +kernel
theorem dX6_pays_24 : decode cX6_pays 24 = .ok (.iload 4, 2) := by decide +kernel
theorem dX6_pays_26 : decode cX6_pays 26 = .ok (.aload_n 0, 1) := by decide +kernel
theorem dX6_pays_27 : decode cX6_pays 27 = .ok (.iconst 4, 1) := by decide +kernel
theorem dX6_pays_28 : decode cX6_pays 28 = .ok (.iload_n 1, 1) := by decide +kernel
theorem dX6_pays_29 : decode cX6_pays 29 = .ok (.iadd, 1) := by decide +kernel
theorem dX6_pays_30 : decode cX6_pays 30 = .ok (.iaload, 1) := by decide +kernel
theorem dX6_pays_31 : decode cX6_pays 31 = .ok (.if_icmp .ge 8, 3) := by decide +kernel
theorem dX6_pays_34 : decode cX6_pays 34 = .ok (.iload 4, 2) := by decide +kernel
theorem dX6_pays_36 : decode cX6_pays 36 = .ok (.goto 8, 3) := by decide +kernel
theorem dX6_pays_39 : decode cX6_pays 39 = .ok (.aload_n 0, 1) := by decide +kernel
theorem dX6_pays_40 : decode cX6_pays 40 = .ok (.iconst 4, 1) := by decide +kernel
theorem dX6_pays_41 : decode cX6_pays 41 = .ok (.iload_n 1, 1) := by decide +kernel
theorem dX6_pays_42 : decode cX6_pays 42 = .ok (.iadd, 1) := by decide +kernel
theorem dX6_pays_43 : decode cX6_pays 43 = .ok (.iaload, 1) := by decide +kernel
theorem dX6_pays_44 : decode cX6_pays 44 = .ok (.istore 5, 2) := by decide +kernel
theorem dX6_pays_46 : decode cX6_pays 46 = .ok (.aload_n 0, 1) := by decide +kernel
theorem dX6_pays_47 : decode cX6_pays 47 = .ok (.iconst 4, 1) := by decide +kernel
theorem dX6_pays_48 : decode cX6_pays 48 = .ok (.iload_n 1, 1) := by decide +kernel
theorem dX6_pays_49 : decode cX6_pays 49 = .ok (.iadd, 1) := by decide +kernel
theorem dX6_pays_50 : decode cX6_pays 50 = .ok (.dup2, 1) := by decide +kernel
theorem dX6_pays_51 : decode cX6_pays 51 = .ok (.iaload, 1) := by decide +kernel
theorem dX6_pays_52 : decode cX6_pays 52 = .ok (.iload 5, 2) := by decide +kernel
theorem dX6_pays_54 : decode cX6_pays 54 = .ok (.isub, 1) := by decide +kernel
theorem dX6_pays_55 : decode cX6_pays 55 = .ok (.iastore, 1) := by decide +kernel
theorem dX6_pays_56 : decode cX6_pays 56 = .ok (.aload_n 0, 1) := by decide +kernel
theorem dX6_pays_57 : decode cX6_pays 57 = .ok (.iconst 4, 1) := by decide +kernel
theorem dX6_pays_58 : decode cX6_pays 58 = .ok (.iload_n 3, 1) := by decide +kernel
theorem dX6_pays_59 : decode cX6_pays 59 = .ok (.iadd, 1) := by decide +kernel
theorem dX6_pays_60 : decode cX6_pays 60 = .ok (.dup2, 1) := by decide +kernel
theorem dX6_pays_61 : decode cX6_pays 61 = .ok (.iaload, 1) := by decide +kernel
theorem dX6_pays_62 : decode cX6_pays 62 = .ok (.iload 5, 2) := by decide +kernel
theorem dX6_pays_64 : decode cX6_pays 64 = .ok (.iadd, 1) := by decide +kernel
theorem dX6_pays_65 : decode cX6_pays 65 = .ok (.iastore, 1) := by decide +kernel
theorem dX6_pays_66 : decode cX6_pays 66 = .ok (.aload_n 0, 1) := by decide +kernel
theorem dX6_pays_67 : decode cX6_pays 67 = .ok (.bipush 40, 2) := by decide +kernel
theorem dX6_pays_69 : decode cX6_pays 69 = .ok (.bipush 7, 2) := by decide +kernel
theorem dX6_pays_71 : decode cX6_pays 71 = .ok (.iload_n 1, 1) := by decide +kernel
theorem dX6_pays_72 : decode cX6_pays 72 = .ok (.imul, 1) := by decide +kernel
theorem dX6_pays_73 : decode cX6_pays 73 = .ok (.iadd, 1) := by decide +kernel
theorem dX6_pays_74 : decode cX6_pays 74 = .ok (.iload_n 3, 1) := by decide +kernel
theorem dX6_pays_75 : decode cX6_pays 75 = .ok (.iadd, 1) := by decide +kernel
theorem dX6_pays_76 : decode cX6_pays 76 = .ok (.dup2, 1) := by decide +kernel
theorem dX6_pays_77 : decode cX6_pays 77 = .ok (.iaload, 1) := by decide +kernel
theorem dX6_pays_78 : decode cX6_pays 78 = .ok (.iload 5, 2) := by decide +kernel
theorem dX6_pays_80 : decode cX6_pays 80 = .ok (.isub, 1) := by decide +kernel
theorem dX6_pays_81 : decode cX6_pays 81 = .ok (.iastore, 1) := by decide +kernel
theorem dX6_pays_82 : decode cX6_pays 82 = .ok (.iload_n 2, 1) := by decide +kernel
theorem dX6_pays_83 : decode cX6_pays 83 = .ok (.iload 5, 2) := by decide +kernel
theorem dX6_pays_85 : decode cX6_pays 85 = .ok (.iadd, 1) := by decide +kernel
theorem dX6_pays_86 : decode cX6_pays 86 = .ok (.istore_n 2, 1) := by decide +kernel
theorem dX6_pays_87 : decode cX6_pays 87 = .ok (.iinc 3 1, 3) := by decide +kernel
theorem dX6_pays_90 : decode cX6_pays 90 = .ok (.goto (-86), 3) := by decide +kernel
theorem dX6_pays_93 : decode cX6_pays 93 = .ok (.iload_n 2, 1) := by decide +kernel
theorem dX6_pays_94 : decode cX6_pays 94 = .ok (.ireturn, 1) := by decide +kernel
theorem dX6_remembers_0 : decode cX6_remembers 0 = .ok (.aload_n 0, 1) := by decide +kernel
theorem dX6_remembers_1 : decode cX6_remembers 1 = .ok (.getfield 145, 3) := by decide +kernel
theorem dX6_remembers_4 : decode cX6_remembers 4 = .ok (.bipush 24, 2) := by decide +kernel
theorem dX6_remembers_6 : decode cX6_remembers 6 = .ok (.if_icmp .ne 43, 3) := by decide +kernel
theorem dX6_remembers_9 : decode cX6_remembers 9 = .ok (.iconst 0, 1) := by decide +kernel
theorem dX6_remembers_10 : decode cX6_remembers 10 = .ok (.istore_n 1, 1) := by decide +kernel
theorem dX6_remembers_11 : decode cX6_remembers 11 = .ok (.iload_n 1, 1) := by decide +kernel
theorem dX6_remembers_12 : decode cX6_remembers 12 = .ok (.sipush 2208, 3) := by decide +kernel
theorem dX6_remembers_15 : decode cX6_remembers 15 = .ok (.if_icmp .ge 24, 3) := by decide +kernel
theorem dX6_remembers_18 : decode cX6_remembers 18 = .ok (.aload_n 0, 1) := by decide +kernel
theorem dX6_remembers_19 : decode cX6_remembers 19 = .ok (.getfield 23, 3) := by decide +kernel
theorem dX6_remembers_22 : decode cX6_remembers 22 = .ok (.iload_n 1, 1) := by decide +kernel
theorem dX6_remembers_23 : decode cX6_remembers 23 = .ok (.aload_n 0, 1) := by decide +kernel
theorem dX6_remembers_24 : decode cX6_remembers 24 = .ok (.getfield 23, 3) := by decide +kernel
theorem dX6_remembers_27 : decode cX6_remembers 27 = .ok (.iload_n 1, 1) := by decide +kernel
theorem dX6_remembers_28 : decode cX6_remembers 28 = .ok (.bipush 96, 2) := by decide +kernel
theorem dX6_remembers_30 : decode cX6_remembers 30 = .ok (.iadd, 1) := by decide +kernel
theorem dX6_remembers_31 : decode cX6_remembers 31 = .ok (.iaload, 1) := by decide +kernel
theorem dX6_remembers_32 : decode cX6_remembers 32 = .ok (.iastore, 1) := by decide +kernel
theorem dX6_remembers_33 : decode cX6_remembers 33 = .ok (.iinc 1 1, 3) := by decide +kernel
theorem dX6_remembers_36 : decode cX6_remembers 36 = .ok (.goto (-25), 3) := by decide +kernel
theorem dX6_remembers_39 : decode cX6_remembers 39 = .ok (.aload_n 0, 1) := by decide +kernel
theorem dX6_remembers_40 : decode cX6_remembers 40 = .ok (.dup, 1) := by decide +kernel
theorem dX6_remembers_41 : decode cX6_remembers 41 = .ok (.getfield 145, 3) := by decide +kernel
theorem dX6_remembers_44 : decode cX6_remembers 44 = .ok (.iconst 1, 1) := by decide +kernel
theorem dX6_remembers_45 : decode cX6_remembers 45 = .ok (.isub, 1) := by decide +kernel
theorem dX6_remembers_46 : decode cX6_remembers 46 = .ok (.putfield 145, 3) := by decide +kernel
theorem dX6_remembers_49 : decode cX6_remembers 49 = .ok (.iconst 0, 1) := by decide +kernel
theorem dX6_remembers_50 : decode cX6_remembers 50 = .ok (.istore_n 1, 1) := by decide +kernel
theorem dX6_remembers_51 : decode cX6_remembers 51 = .ok (.iload_n 1, 1) := by decide +kernel
theorem dX6_remembers_52 : decode cX6_remembers 52 = .ok (.bipush 96, 2) := by decide +kernel
theorem dX6_remembers_54 : decode cX6_remembers 54 = .ok (.if_icmp .ge 29, 3) := by decide +kernel
theorem dX6_remembers_57 : decode cX6_remembers 57 = .ok (.aload_n 0, 1) := by decide +kernel
theorem dX6_remembers_58 : decode cX6_remembers 58 = .ok (.getfield 23, 3) := by decide +kernel
theorem dX6_remembers_61 : decode cX6_remembers 61 = .ok (.bipush 96, 2) := by decide +kernel
theorem dX6_remembers_63 : decode cX6_remembers 63 = .ok (.aload_n 0, 1) := by decide +kernel
theorem dX6_remembers_64 : decode cX6_remembers 64 = .ok (.getfield 145, 3) := by decide +kernel
theorem dX6_remembers_67 : decode cX6_remembers 67 = .ok (.imul, 1) := by decide +kernel
theorem dX6_remembers_68 : decode cX6_remembers 68 = .ok (.iload_n 1, 1) := by decide +kernel
theorem dX6_remembers_69 : decode cX6_remembers 69 = .ok (.iadd, 1) := by decide +kernel
theorem dX6_remembers_70 : decode cX6_remembers 70 = .ok (.aload_n 0, 1) := by decide +kernel
theorem dX6_remembers_71 : decode cX6_remembers 71 = .ok (.getfield 7, 3) := by decide +kernel
theorem dX6_remembers_74 : decode cX6_remembers 74 = .ok (.iload_n 1, 1) := by decide +kernel
theorem dX6_remembers_75 : decode cX6_remembers 75 = .ok (.iaload, 1) := by decide +kernel
theorem dX6_remembers_76 : decode cX6_remembers 76 = .ok (.iastore, 1) := by decide +kernel
theorem dX6_remembers_77 : decode cX6_remembers 77 = .ok (.iinc 1 1, 3) := by decide +kernel
theorem dX6_remembers_80 : decode cX6_remembers 80 = .ok (.goto (-29), 3) := by decide +kernel
theorem dX6_remembers_83 : decode cX6_remembers 83 = .ok (.aload_n 0, 1) := by decide +kernel
theorem dX6_remembers_84 : decode cX6_remembers 84 = .ok (.dup, 1) := by decide +kernel
theorem dX6_remembers_85 : decode cX6_remembers 85 = .ok (.getfield 145, 3) := by decide +kernel
theorem dX6_remembers_88 : decode cX6_remembers 88 = .ok (.iconst 1, 1) := by decide +kernel
theorem dX6_remembers_89 : decode cX6_remembers 89 = .ok (.iadd, 1) := by decide +kernel
theorem dX6_remembers_90 : decode cX6_remembers 90 = .ok (.putfield 145, 3) := by decide +kernel
theorem dX6_remembers_93 : decode cX6_remembers 93 = .ok (.return_, 1) := by decide +kernel
def inL (v lo hi : Int64) : Int32 := if v < lo then nI 0 else if hi < v then nI 0 else nI 1
def inI (v lo hi : Int32) : Int32 := if v < lo then nI 0 else if hi < v then nI 0 else nI 1
theorem i64_lt (x y : Int32) : x.toInt64 < y.toInt64 ↔ x < y := by
  rw [Int64.lt_iff_toInt_lt, Int32.lt_iff_toInt_lt, Int32.toInt_toInt64, Int32.toInt_toInt64]
theorem inL_I (v lo hi : Int32) : inL v.toInt64 lo.toInt64 hi.toInt64 = inI v lo hi := by
  unfold inL inI
  simp only [i64_lt]
theorem inI_no {v lo hi : Int32} (h : v < lo ∨ hi < v) : inI v lo hi = nI 0 := by
  unfold inI
  by_cases h1 : v < lo
  · rw [if_pos h1]
  · rw [if_neg h1, if_pos (h.resolve_left h1)]
theorem inI_yes {v lo hi : Int32} (h1 : ¬ v < lo) (h2 : v ≤ hi) : inI v lo hi = nI 1 := by
  unfold inI
  rw [if_neg h1, if_neg (Int32.not_lt.mpr h2)]
theorem inI_N {v lo hi : Nat} (h1 : lo ≤ v) (h2 : v ≤ hi) (h3 : hi < 2 ^ 31) : inI (nI v) (nI lo) (nI hi) = nI 1 := inI_yes (nI_nlt h1 (by omega)) (nI_le h2 h3)
/-- a place in a row of n -/
theorem inI_ix (x : Int32) {n : Nat} (hn : n < 2 ^ 31) : (npI x n = 0 → inI x (nI 0) (nI n - nI 1) = nI 1) ∧ (¬ npI x n = 0 → inI x (nI 0) (nI n - nI 1) = nI 0) := by
  by_cases h0 : n = 0
  · subst h0
    have e : npI x 0 = nI 1 := by
      unfold npI
      by_cases h : x < 0
      · rw [if_pos h]
      · rw [if_neg h]
        by_cases h2 : x < nI 0
        · exact absurd h2 h
        · rw [if_neg h2]
    refine ⟨fun h => absurd (e ▸ h : nI 1 = 0) (by decide), fun _ => ?_⟩
    unfold inI
    by_cases h : x < nI 0
    · rw [if_pos h]
    · rw [if_neg h]
      have h3 : nI 0 - nI 1 < x := by
        rw [show nI 0 - nI 1 = (-1 : Int32) by decide, Int32.lt_iff_toInt_lt]
        have h4 : ¬ x.toInt < (nI 0).toInt := fun q => h (Int32.lt_iff_toInt_lt.mpr q)
        rw [show (-1 : Int32).toInt = -1 from rfl]
        rw [show (nI 0).toInt = 0 from rfl] at h4
        omega
      rw [if_pos h3]
  · have e : nI n - nI 1 = nI (n - 1) := pk_sub (by omega)
    rw [e]
    rcases pk_ix x hn with h | h | ⟨j, hj, rfl⟩
    · refine ⟨fun q => ?_, fun _ => inI_no (Or.inl h)⟩
      unfold npI at q
      rw [if_pos h] at q
      exact absurd q (by decide)
    · refine ⟨fun q => ?_, fun _ => inI_no (Or.inr ?_)⟩
      · unfold npI at q
        rw [if_neg (Int32.not_lt.mpr (Int32.le_trans (nI_pos' (n := n) hn) h)), if_neg (Int32.not_lt.mpr h)] at q
        exact absurd q (by decide)
      · exact Int32.lt_of_lt_of_le (nI_lt (by omega) hn) h
    · refine ⟨fun _ => inI_N (by omega) (by omega) (by omega), fun q => absurd ?_ q⟩
      unfold npI
      rw [if_neg (nI_pos (by omega)), if_pos (nI_lt hj hn)]
      rfl
theorem sum_cut {f g : Nat → Int32} {N : Nat} : ∀ (k : Nat), (∀ o, o < N → f o = g o) → (∀ o, N ≤ o → o < N + k → f o = nI 0) → sumR f (N + k) = sumR g N
  | 0, h1, _ => by
    have : ∀ n, n ≤ N → sumR f n = sumR g n := by
      intro n
      induction n with
      | zero => intro _; rfl
      | succ n ih => intro h; show sumR f n + f n = sumR g n + g n; rw [ih (by omega), h1 n (by omega)]
    exact this N (Nat.le_refl N)
  | k + 1, h1, h2 => by
    show sumR f (N + k) + f (N + k) = _
    rw [sum_cut k h1 (fun o q1 q2 => h2 o q1 (by omega)), h2 (N + k) (by omega) (by omega)]
    exact Int32.add_zero _
theorem sum7 {d : TS} {p : Nat} (hN : sN d ≤ 7) (hp : p < sN d) : sumR (fun o => encT d (40 + 7 * p + o)) 7 = dsum (sD d) (sN d) p := by
  have h := sum_cut (f := fun o => encT d (40 + 7 * p + o)) (g := fun b => sD d (p * 7 + b)) (N := sN d) (7 - sN d) (fun o ho => enc_d hN hp ho) (fun o h1 h2 => enc_dz (by omega) (by omega) (fun q => by omega))
  rw [show sN d + (7 - sN d) = 7 by omega] at h
  exact h
theorem sum7t {d : TS} {p : Nat} (hN : sN d ≤ 7) (hp : p < sN d) : sumR (fun o => encT d (40 + 7 * o + p)) 7 = tsum (sD d) (sN d) p := by
  have h := sum_cut (f := fun o => encT d (40 + 7 * o + p)) (g := fun b => sD d (b * 7 + p)) (N := sN d) (7 - sN d) (fun o ho => enc_d hN ho hp) (fun o h1 h2 => enc_dz (by omega) (by omega) (fun q => by omega))
  rw [show sN d + (7 - sN d) = 7 by omega] at h
  exact h
theorem cpy_s {f g : Nat → Int32} {sp dp k : Nat} : upd (va_cpy f g sp dp k) (dp + k) (f (sp + k)) = va_cpy f g sp dp (k + 1) := by
  funext j
  by_cases h : j = dp + k
  · subst h
    rw [pk_us, pk_cpy_in (by omega) (by omega), show dp + k - dp = k by omega]
  · rw [pk_un h]
    by_cases h2 : dp ≤ j ∧ j < dp + k
    · rw [pk_cpy_in h2.1 h2.2, pk_cpy_in h2.1 (by omega)]
    · rw [pk_cpy_out (by omega), pk_cpy_out (by omega)]
theorem cpy_0 {f g : Nat → Int32} {sp dp : Nat} : va_cpy f g sp dp 0 = g := by
  funext j
  rw [pk_cpy_out (by omega)]
theorem nar_in (v lo hi : Int32) : narrow .boolean (.int (inI v lo hi)) = .int (inI v lo hi) := by
  unfold inI
  split
  · rfl
  · split <;> rfl
section M1
variable {G : GG} {z : Nat} {σ : AH} {a0 a1 a2 a3 a4 a5 a6 a7 a8 a9 a10 a11 : Nat → Int32} {i0 i1 i2 i3 i4 i5 i6 i7 i8 i9 i10 i11 : Int32} {d : TS} {p : Nat}
theorem m_in (v lo hi : Int64) : Ct G yX6_in cX6_in 6 (some .boolean) 1 0 0 z σ [.long v, .long lo, .long hi] (some (.int (inL v lo hi))) z σ := by
  refine Ct.ofJ RX6 rfl [some (.long v), none, some (.long lo), none, some (.long hi), none] rfl (by decide) (by simp [Value.category]) ?_
  refine j_lload_n dX6_in_0 rfl rfl ?_
  refine j_lload_n dX6_in_1 rfl rfl ?_
  refine j_lcmp dX6_in_2 ?_
  refine j_if_lt 17 dX6_in_3 (by decide) (fun b3 => ?_) (fun b3 => ?_)
  · refine j_iconst (nI 0) dX6_in_17 rfl ?_
    exact j_zret .boolean rfl rfl dX6_in_18 (by unfold inL; first | rw [if_pos ((lg_cmp_lt _ _).mp b3)] | rw [if_neg (fun q => b3 ((lg_cmp_lt _ _).mpr q)), if_pos ((lg_cmp_gt _ _).mp b10)] | rw [if_neg (fun q => b3 ((lg_cmp_lt _ _).mpr q)), if_neg (fun q => b10 ((lg_cmp_gt _ _).mpr q))] | done) rfl (Nat.le_of_ble_eq_true rfl) (Nat.le_of_ble_eq_true rfl)
  · refine j_lload_n dX6_in_6 rfl rfl ?_
    refine j_lload dX6_in_7 rfl ?_
    refine j_lcmp dX6_in_9 ?_
    refine j_if_gt 17 dX6_in_10 (by decide) (fun b10 => ?_) (fun b10 => ?_)
    · refine j_iconst (nI 0) dX6_in_17 rfl ?_
      exact j_zret .boolean rfl rfl dX6_in_18 (by unfold inL; first | rw [if_pos ((lg_cmp_lt _ _).mp b3)] | rw [if_neg (fun q => b3 ((lg_cmp_lt _ _).mpr q)), if_pos ((lg_cmp_gt _ _).mp b10)] | rw [if_neg (fun q => b3 ((lg_cmp_lt _ _).mpr q)), if_neg (fun q => b10 ((lg_cmp_gt _ _).mpr q))] | done) rfl (Nat.le_of_ble_eq_true rfl) (Nat.le_of_ble_eq_true rfl)
    · refine j_iconst (nI 1) dX6_in_13 rfl ?_
      refine j_goto 18 dX6_in_14 (by decide) ?_
      exact j_zret .boolean rfl rfl dX6_in_18 (by unfold inL; first | rw [if_pos ((lg_cmp_lt _ _).mp b3)] | rw [if_neg (fun q => b3 ((lg_cmp_lt _ _).mpr q)), if_pos ((lg_cmp_gt _ _).mp b10)] | rw [if_neg (fun q => b3 ((lg_cmp_lt _ _).mpr q)), if_neg (fun q => b10 ((lg_cmp_gt _ _).mpr q))] | done) rfl (Nat.le_of_ble_eq_true rfl) (Nat.le_of_ble_eq_true rfl)
theorem m_in3 (v lo hi : Int32) {a b : Int64} (ha : lo.toInt64 = a) (hb : hi.toInt64 = b) : Ct G yX6_in cX6_in 6 (some .boolean) 1 0 0 z σ [.long v.toInt64, .long a, .long b] (some (.int (inI v lo hi))) z σ := by
  subst ha; subst hb
  rw [← inL_I]
  exact m_in _ _ _
theorem m_isRow (r : Int32) : Ct G yX6_isRow cX6_isRow 1 (some .boolean) 2 0 0 z σ [.int r] (some (.int (inI r (nI 0) (nI 7)))) z σ := by
  refine Ct.ofJ RX6 rfl [some (.int r)] rfl (by decide) (by simp [Value.category]) ?_
  refine j_iload_n dX6_isRow_0 rfl rfl ?_
  refine j_i2l dX6_isRow_1 ?_
  refine j_lconst (0) dX6_isRow_2 rfl ?_
  refine j_ldc2 (7) dX6_isRow_3 kl_X6_52 ?_
  refine j_callS (m_in3 r (nI 0) (nI 7) rfl rfl) dX6_isRow_6 rfl ms_X6_54 ⟨(Nat.le_of_ble_eq_true rfl), (Nat.le_of_ble_eq_true rfl)⟩ ⟨(Nat.le_of_ble_eq_true rfl), (Nat.le_of_ble_eq_true rfl)⟩ (Nat.le_of_ble_eq_true rfl) ?_
  exact j_zret .boolean rfl (nar_in _ _ _) dX6_isRow_9 rfl rfl (Nat.le_of_ble_eq_true rfl) (Nat.le_of_ble_eq_true rfl)
theorem m_finds (x : Int32) : Ct G yX6_finds cX6_finds 2 (some .int) 1 0 0 z (mH σ a0 a1 a2 a3 a4 a5 a6 a7 a8 a9 a10 a11 i0 i1 i2 i3 i4 i5 i6 i7 i8 i9 i10 i11) [.ref 171, .int x] (some (.int (-1000010 - x))) z (mH σ a0 a1 a2 a3 a4 a5 a6 a7 a8 a9 a10 a11 i0 x i2 i3 i4 i5 i6 i7 i8 i9 i10 i11) := by
  refine Ct.ofJ RX6 rfl [some (.ref 171), some (.int x)] rfl (by decide) (by simp [Value.category]) ?_
  refine j_aload_n dX6_finds_0 rfl rfl ?_
  refine j_iload_n dX6_finds_1 rfl rfl ?_
  refine j_putf dX6_finds_2 6 6 rfl (Nat.le_of_ble_eq_true rfl) fl_X6_47 in_6 tyX6 tyX6_ok nmX6 rfl rfl mH_o (Nat.le_of_ble_eq_true rfl) _ mH_p1 ?_
  refine j_ldc (-1000010) dX6_finds_5 kc_X6_51 ?_
  refine j_iload_n dX6_finds_7 rfl rfl ?_
  refine j_isub dX6_finds_8 ?_
  exact j_iret rfl dX6_finds_9 rfl rfl (Nat.le_of_ble_eq_true rfl) (Nat.le_of_ble_eq_true rfl)
theorem m_fine (x : Int32) : Ct G yX6_fine cX6_fine 2 (some .int) 1 0 0 z (mH σ a0 a1 a2 a3 a4 a5 a6 a7 a8 a9 a10 a11 i0 i1 i2 i3 i4 i5 i6 i7 i8 i9 i10 i11) [.ref 171, .int x] (some (.int x)) z (mH σ a0 a1 a2 a3 a4 a5 a6 a7 a8 a9 a10 a11 i0 (nI 0) i2 i3 i4 i5 i6 i7 i8 i9 i10 i11) := by
  refine Ct.ofJ RX6 rfl [some (.ref 171), some (.int x)] rfl (by decide) (by simp [Value.category]) ?_
  refine j_aload_n dX6_fine_0 rfl rfl ?_
  refine j_iconst (nI 0) dX6_fine_1 rfl ?_
  refine j_putf dX6_fine_2 6 6 rfl (Nat.le_of_ble_eq_true rfl) fl_X6_47 in_6 tyX6 tyX6_ok nmX6 rfl rfl mH_o (Nat.le_of_ble_eq_true rfl) _ mH_p1 ?_
  refine j_iload_n dX6_fine_5 rfl rfl ?_
  exact j_iret rfl dX6_fine_6 rfl rfl (Nat.le_of_ble_eq_true rfl) (Nat.le_of_ble_eq_true rfl)
theorem m_isOne (x : Int32) {n : Nat} (h : a0 2 = nI n) : Ct G yX6_isOne cX6_isOne 2 (some .boolean) 2 0 0 z (mH σ a0 a1 a2 a3 a4 a5 a6 a7 a8 a9 a10 a11 i0 i1 i2 i3 i4 i5 i6 i7 i8 i9 i10 i11) [.ref 171, .int x] (some (.int (inI x (nI 0) (nI n - nI 1)))) z (mH σ a0 a1 a2 a3 a4 a5 a6 a7 a8 a9 a10 a11 i0 i1 i2 i3 i4 i5 i6 i7 i8 i9 i10 i11) := by
  refine Ct.ofJ RX6 rfl [some (.ref 171), some (.int x)] rfl (by decide) (by simp [Value.category]) ?_
  refine j_iload_n dX6_isOne_0 rfl rfl ?_
  refine j_i2l dX6_isOne_1 ?_
  refine j_lconst (0) dX6_isOne_2 rfl ?_
  refine j_aload_n dX6_isOne_3 rfl rfl ?_
  refine j_getf dX6_isOne_4 6 0 rfl (Nat.le_of_ble_eq_true rfl) fl_X6_7 in_6 mH_o rfl ?_
  refine j_iconst (nI 2) dX6_isOne_7 rfl ?_
  refine j_iald dX6_isOne_8 mH_a0 rfl (by omega) (by decide) ?_
  refine j_top (nI n) h ?_
  refine j_iconst (nI 1) dX6_isOne_9 rfl ?_
  refine j_isub dX6_isOne_10 ?_
  refine j_i2l dX6_isOne_11 ?_
  refine j_callS (m_in3 x (nI 0) (nI n - nI 1) rfl rfl) dX6_isOne_12 rfl ms_X6_54 ⟨(Nat.le_of_ble_eq_true rfl), (Nat.le_of_ble_eq_true rfl)⟩ ⟨(Nat.le_of_ble_eq_true rfl), (Nat.le_of_ble_eq_true rfl)⟩ (Nat.le_of_ble_eq_true rfl) ?_
  exact j_zret .boolean rfl (nar_in _ _ _) dX6_isOne_15 rfl rfl (Nat.le_of_ble_eq_true rfl) (Nat.le_of_ble_eq_true rfl)
theorem m_isOne1 {n : Nat} (h : a0 2 = nI n) (hn : n ≤ 7) {q : Nat} (hq : q < n) : Ct G yX6_isOne cX6_isOne 2 (some .boolean) 2 0 0 z (mH σ a0 a1 a2 a3 a4 a5 a6 a7 a8 a9 a10 a11 i0 i1 i2 i3 i4 i5 i6 i7 i8 i9 i10 i11) [.ref 171, .int (nI q)] (some (.int (nI 1))) z (mH σ a0 a1 a2 a3 a4 a5 a6 a7 a8 a9 a10 a11 i0 i1 i2 i3 i4 i5 i6 i7 i8 i9 i10 i11) := by
  have := m_isOne (G := G) (z := z) (σ := σ) (a1 := a1) (a2 := a2) (a3 := a3) (a4 := a4) (a5 := a5) (a6 := a6) (a7 := a7) (a8 := a8) (a9 := a9) (a10 := a10) (a11 := a11) (i0 := i0) (i1 := i1) (i2 := i2) (i3 := i3) (i4 := i4) (i5 := i5) (i6 := i6) (i7 := i7) (i8 := i8) (i9 := i9) (i10 := i10) (i11 := i11) (nI q) h
  rw [pk_sub (by omega), inI_N (by omega) (by omega) (by omega)] at this
  exact this
theorem m_isOne0 {n : Nat} (h : a0 2 = nI n) (hn : n ≤ 7) (x : Int32) (hx : ¬ npI x n = 0) : Ct G yX6_isOne cX6_isOne 2 (some .boolean) 2 0 0 z (mH σ a0 a1 a2 a3 a4 a5 a6 a7 a8 a9 a10 a11 i0 i1 i2 i3 i4 i5 i6 i7 i8 i9 i10 i11) [.ref 171, .int x] (some (.int (nI 0))) z (mH σ a0 a1 a2 a3 a4 a5 a6 a7 a8 a9 a10 a11 i0 i1 i2 i3 i4 i5 i6 i7 i8 i9 i10 i11) := by
  have := m_isOne (G := G) (z := z) (σ := σ) (a1 := a1) (a2 := a2) (a3 := a3) (a4 := a4) (a5 := a5) (a6 := a6) (a7 := a7) (a8 := a8) (a9 := a9) (a10 := a10) (a11 := a11) (i0 := i0) (i1 := i1) (i2 := i2) (i3 := i3) (i4 := i4) (i5 := i5) (i6 := i6) (i7 := i7) (i8 := i8) (i9 := i9) (i10 := i10) (i11 := i11) x h
  rw [(inI_ix x (by omega)).2 hx] at this
  exact this
theorem m_areTwo0 {n : Nat} (h : a0 2 = nI n) (hn : n ≤ 7) (a b : Int32) (hx : ¬ nqI a b n = 0) : Ct G yX6_areTwo cX6_areTwo 3 (some .boolean) 3 0 0 z (mH σ a0 a1 a2 a3 a4 a5 a6 a7 a8 a9 a10 a11 i0 i1 i2 i3 i4 i5 i6 i7 i8 i9 i10 i11) [.ref 171, .int a, .int b] (some (.int (nI 0))) z (mH σ a0 a1 a2 a3 a4 a5 a6 a7 a8 a9 a10 a11 i0 i1 i2 i3 i4 i5 i6 i7 i8 i9 i10 i11) := by
  refine Ct.ofJ RX6 rfl [some (.ref 171), some (.int a), some (.int b)] rfl (by decide) (by simp [Value.category]) ?_
  refine j_aload_n dX6_areTwo_0 rfl rfl ?_
  refine j_iload_n dX6_areTwo_1 rfl rfl ?_
  refine j_callV (m_isOne a h) dX6_areTwo_2 rfl mv_X6_148 mH_o rfl ⟨(Nat.le_of_ble_eq_true rfl), (Nat.le_of_ble_eq_true rfl)⟩ ⟨(Nat.le_of_ble_eq_true rfl), (Nat.le_of_ble_eq_true rfl)⟩ (Nat.le_of_ble_eq_true rfl) ?_
  refine j_if_eq 25 dX6_areTwo_5 (by decide) (fun b5 => ?_) (fun b5 => ?_)
  · refine j_iconst (nI 0) dX6_areTwo_25 rfl ?_
    exact j_zret .boolean rfl rfl dX6_areTwo_26 rfl rfl (Nat.le_of_ble_eq_true rfl) (Nat.le_of_ble_eq_true rfl)
  · refine j_aload_n dX6_areTwo_8 rfl rfl ?_
    refine j_iload_n dX6_areTwo_9 rfl rfl ?_
    refine j_callV (m_isOne b h) dX6_areTwo_10 rfl mv_X6_148 mH_o rfl ⟨(Nat.le_of_ble_eq_true rfl), (Nat.le_of_ble_eq_true rfl)⟩ ⟨(Nat.le_of_ble_eq_true rfl), (Nat.le_of_ble_eq_true rfl)⟩ (Nat.le_of_ble_eq_true rfl) ?_
    refine j_if_eq 25 dX6_areTwo_13 (by decide) (fun b13 => ?_) (fun b13 => ?_)
    · refine j_iconst (nI 0) dX6_areTwo_25 rfl ?_
      exact j_zret .boolean rfl rfl dX6_areTwo_26 rfl rfl (Nat.le_of_ble_eq_true rfl) (Nat.le_of_ble_eq_true rfl)
    · refine j_iload_n dX6_areTwo_16 rfl rfl ?_
      refine j_iload_n dX6_areTwo_17 rfl rfl ?_
      refine j_icmp_eq 25 dX6_areTwo_18 (by decide) (fun b18 => ?_) (fun b18 => ?_)
      · refine j_iconst (nI 0) dX6_areTwo_25 rfl ?_
        exact j_zret .boolean rfl rfl dX6_areTwo_26 rfl rfl (Nat.le_of_ble_eq_true rfl) (Nat.le_of_ble_eq_true rfl)
      · exfalso
        refine hx ?_
        unfold nqI
        have h1 : npI a n = 0 := Decidable.byContradiction fun q => b5 ((inI_ix a (by omega)).2 q)
        have h2 : npI b n = 0 := Decidable.byContradiction fun q => b13 ((inI_ix b (by omega)).2 q)
        rw [if_pos h1, if_pos h2, if_neg b18]
        rfl
theorem m_areTwo1 {n : Nat} (h : a0 2 = nI n) (hn : n ≤ 7) {a b : Nat} (ha : a < n) (hb : b < n) (hab : a ≠ b) : Ct G yX6_areTwo cX6_areTwo 3 (some .boolean) 3 0 0 z (mH σ a0 a1 a2 a3 a4 a5 a6 a7 a8 a9 a10 a11 i0 i1 i2 i3 i4 i5 i6 i7 i8 i9 i10 i11) [.ref 171, .int (nI a), .int (nI b)] (some (.int (nI 1))) z (mH σ a0 a1 a2 a3 a4 a5 a6 a7 a8 a9 a10 a11 i0 i1 i2 i3 i4 i5 i6 i7 i8 i9 i10 i11) := by
  refine Ct.ofJ RX6 rfl [some (.ref 171), some (.int (nI a)), some (.int (nI b))] rfl (by decide) (by simp [Value.category]) ?_
  refine j_aload_n dX6_areTwo_0 rfl rfl ?_
  refine j_iload_n dX6_areTwo_1 rfl rfl ?_
  refine j_callV (m_isOne1 h hn ha) dX6_areTwo_2 rfl mv_X6_148 mH_o rfl ⟨(Nat.le_of_ble_eq_true rfl), (Nat.le_of_ble_eq_true rfl)⟩ ⟨(Nat.le_of_ble_eq_true rfl), (Nat.le_of_ble_eq_true rfl)⟩ (Nat.le_of_ble_eq_true rfl) ?_
  refine j_top (nI 1) rfl ?_
  refine j_if_eq 25 dX6_areTwo_5 (by decide) (fun h => absurd h (by decide)) (fun _ => ?_)
  refine j_aload_n dX6_areTwo_8 rfl rfl ?_
  refine j_iload_n dX6_areTwo_9 rfl rfl ?_
  refine j_callV (m_isOne1 h hn hb) dX6_areTwo_10 rfl mv_X6_148 mH_o rfl ⟨(Nat.le_of_ble_eq_true rfl), (Nat.le_of_ble_eq_true rfl)⟩ ⟨(Nat.le_of_ble_eq_true rfl), (Nat.le_of_ble_eq_true rfl)⟩ (Nat.le_of_ble_eq_true rfl) ?_
  refine j_top (nI 1) rfl ?_
  refine j_if_eq 25 dX6_areTwo_13 (by decide) (fun h => absurd h (by decide)) (fun _ => ?_)
  refine j_iload_n dX6_areTwo_16 rfl rfl ?_
  refine j_iload_n dX6_areTwo_17 rfl rfl ?_
  refine j_icmp_eqN 25 dX6_areTwo_18 (by decide) (by omega) (by omega) (fun b18 => by exact absurd b18 hab) (fun b18 => ?_)
  refine j_iconst (nI 1) dX6_areTwo_21 rfl ?_
  refine j_goto 26 dX6_areTwo_22 (by decide) ?_
  exact j_zret .boolean rfl rfl dX6_areTwo_26 rfl rfl (Nat.le_of_ble_eq_true rfl) (Nat.le_of_ble_eq_true rfl)
theorem m_owedIn {t : Nat} (h : σ t = some (.inl (0, 96, encT d))) (hN : sN d ≤ 7) (hp : p < sN d) : Ct G yX6_owedIn cX6_owedIn 4 (some .int) 1 0 0 z σ [.ref t, .int (nI p)] (some (.int (dsum (sD d) (sN d) p))) z σ := by
  refine Ct.ofJ RX6 rfl [some (.ref t), some (.int (nI p)), none, none] rfl (by decide) (by simp [Value.category]) ?_
  refine j_iconst (nI 0) dX6_owedIn_0 rfl ?_
  refine j_istore_n dX6_owedIn_1 rfl (Nat.le_of_ble_eq_true rfl) rfl ?_
  refine j_iconst (nI 0) dX6_owedIn_2 rfl ?_
  refine j_istore_n dX6_owedIn_3 rfl (Nat.le_of_ble_eq_true rfl) rfl ?_
  skip
  suffices H : ∀ (ki i : Nat), i ≤ 7 → 7 < i + ki → J G RX6 cX6_owedIn 4 (some .int) (TQ G 1 0 0 (some (.int (dsum (sD d) (sN d) p))) z σ) z σ 0 0 4 [some (.ref t), some (.int (nI p)), some (.int (sumR (fun o => encT d (40 + 7 * p + o)) i)), some (.int (nI i))] [] from H (7 + 1) 0 (by omega) (by omega)
  intro ki
  induction ki with
  | zero => intro i h1i h2i; exact absurd h2i (by omega)
  | succ ki ih =>
    intro i h1i h2i
    refine j_iload_n dX6_owedIn_4 rfl rfl ?_
    refine j_bipush (nI 7) dX6_owedIn_5 rfl ?_
    refine j_icmp_geN 30 dX6_owedIn_7 (by decide) (by omega) (by omega) (fun b7 => ?_) (fun b7 => ?_)
    · obtain rfl : i = 7 := by omega
      refine j_iload_n dX6_owedIn_30 rfl rfl ?_
      exact j_iret rfl dX6_owedIn_31 (by rw [sum7 hN hp]) rfl (Nat.le_of_ble_eq_true rfl) (Nat.le_of_ble_eq_true rfl)
    · refine j_iload_n dX6_owedIn_10 rfl rfl ?_
      refine j_aload_n dX6_owedIn_11 rfl rfl ?_
      refine j_bipush (nI 40) dX6_owedIn_12 rfl ?_
      refine j_bipush (nI 7) dX6_owedIn_14 rfl ?_
      refine j_iload_n dX6_owedIn_16 rfl rfl ?_
      first | refine j_imulN dX6_owedIn_17 ?_ | refine j_imul dX6_owedIn_17 ?_
      first | refine j_iaddN dX6_owedIn_18 ?_ | refine j_iadd dX6_owedIn_18 ?_
      refine j_iload_n dX6_owedIn_19 rfl rfl ?_
      first | refine j_iaddN dX6_owedIn_20 ?_ | refine j_iadd dX6_owedIn_20 ?_
      refine j_iald dX6_owedIn_21 h rfl (by omega) (by decide) ?_
      refine j_iadd dX6_owedIn_22 ?_
      refine j_istore_n dX6_owedIn_23 rfl (Nat.le_of_ble_eq_true rfl) rfl ?_
      first | refine j_iincN dX6_owedIn_24 rfl (Nat.le_of_ble_eq_true rfl) rfl ?_ | refine j_iinc _ dX6_owedIn_24 rfl rfl (Nat.le_of_ble_eq_true rfl) rfl ?_
      refine j_goto 4 dX6_owedIn_27 (by decide) ?_
      exact ih (i + 1) (by omega) (by omega)
theorem m_shadeIn {t : Nat} (h : σ t = some (.inl (0, 96, encT d))) (hN : sN d ≤ 7) (hp : p < sN d) (hu : 1 ≤ sU d) (hu2 : sU d ≤ 20) : Ct G yX6_shadeIn cX6_shadeIn 3 (some .int) 2 0 0 z σ [.ref t, .int (nI p)] (some (.int (shd (sD d) (sN d) (sU d) p))) z σ := by
  refine Ct.ofJ RX6 rfl [some (.ref t), some (.int (nI p)), none] rfl (by decide) (by simp [Value.category]) ?_
  refine j_aload_n dX6_shadeIn_0 rfl rfl ?_
  refine j_iload_n dX6_shadeIn_1 rfl rfl ?_
  refine j_callS (m_owedIn h hN hp) dX6_shadeIn_2 rfl ms_X6_151 ⟨(Nat.le_of_ble_eq_true rfl), (Nat.le_of_ble_eq_true rfl)⟩ ⟨(Nat.le_of_ble_eq_true rfl), (Nat.le_of_ble_eq_true rfl)⟩ (Nat.le_of_ble_eq_true rfl) ?_
  refine j_aload_n dX6_shadeIn_5 rfl rfl ?_
  refine j_iconst (nI 0) dX6_shadeIn_6 rfl ?_
  refine j_iald dX6_shadeIn_7 h (k := 0) rfl (by omega) (by decide) ?_
  refine j_top (nI (sU d)) rfl ?_
  refine j_idiv dX6_shadeIn_8 (nI_ne0 (by omega) (by omega)) ?_
  refine j_istore_n dX6_shadeIn_9 rfl (Nat.le_of_ble_eq_true rfl) rfl ?_
  refine j_iload_n dX6_shadeIn_10 rfl rfl ?_
  refine j_bipush (nI 9) dX6_shadeIn_11 rfl ?_
  refine j_icmp_le 21 dX6_shadeIn_13 (by decide) (fun b13 => ?_) (fun b13 => ?_)
  · refine j_iload_n dX6_shadeIn_21 rfl rfl ?_
    exact j_iret rfl dX6_shadeIn_22 (by unfold shd minI; first | rw [if_neg (Int32.not_lt.mpr b13)] | rw [if_pos (Int32.not_le.mp b13)] | done) rfl (Nat.le_of_ble_eq_true rfl) (Nat.le_of_ble_eq_true rfl)
  · refine j_bipush (nI 9) dX6_shadeIn_16 rfl ?_
    refine j_goto 22 dX6_shadeIn_18 (by decide) ?_
    exact j_iret rfl dX6_shadeIn_22 (by unfold shd minI; first | rw [if_neg (Int32.not_lt.mpr b13)] | rw [if_pos (Int32.not_le.mp b13)] | done) rfl (Nat.le_of_ble_eq_true rfl) (Nat.le_of_ble_eq_true rfl)
theorem m_tries : Ct G yX6_tries cX6_tries 2 none 1 0 0 z (mH σ a0 a1 a2 a3 a4 a5 a6 a7 a8 a9 a10 a11 i0 i1 i2 i3 i4 i5 i6 i7 i8 i9 i10 i11) [.ref 171] none z (mH σ a0 a0 a2 a3 a4 a5 a6 a7 a8 a9 a10 a11 i0 i1 i2 i3 i4 i5 i6 i7 i8 i9 i10 i11) := by
  refine Ct.ofJ RX6 rfl [some (.ref 171), none] rfl (by decide) (by simp [Value.category]) ?_
  refine j_iconst (nI 0) dX6_tries_0 rfl ?_
  refine j_istore_n dX6_tries_1 rfl (Nat.le_of_ble_eq_true rfl) rfl ?_
  suffices H : ∀ (kk i : Nat), i ≤ 96 → 96 < i + kk → J G RX6 cX6_tries 2 none (TQ G 1 0 0 none z (mH σ a0 a0 a2 a3 a4 a5 a6 a7 a8 a9 a10 a11 i0 i1 i2 i3 i4 i5 i6 i7 i8 i9 i10 i11)) z (mH σ a0 (va_cpy a0 a1 0 0 i) a2 a3 a4 a5 a6 a7 a8 a9 a10 a11 i0 i1 i2 i3 i4 i5 i6 i7 i8 i9 i10 i11) 0 0 2 [some (.ref 171), some (.int (nI i))] [] from (by have := H 97 0 (by omega) (by omega); rw [cpy_0] at this; exact this)
  intro kk
  induction kk with
  | zero => intro i h1 h2; exact absurd h2 (by omega)
  | succ kk ih =>
    intro i h1 h2
    by_cases hi : i < 96
    · refine j_iload_n dX6_tries_2 rfl rfl ?_
      refine j_bipush (nI 96) dX6_tries_3 rfl ?_
      refine j_icmp_geN 26 dX6_tries_5 (by decide) (by omega) (by omega) (fun b5 => by exfalso; omega) (fun b5 => ?_)
      refine j_aload_n dX6_tries_8 rfl rfl ?_
      refine j_getf dX6_tries_9 6 1 rfl (Nat.le_of_ble_eq_true rfl) fl_X6_13 in_6 mH_o rfl ?_
      refine j_iload_n dX6_tries_12 rfl rfl ?_
      refine j_aload_n dX6_tries_13 rfl rfl ?_
      refine j_getf dX6_tries_14 6 0 rfl (Nat.le_of_ble_eq_true rfl) fl_X6_7 in_6 mH_o rfl ?_
      refine j_iload_n dX6_tries_17 rfl rfl ?_
      refine j_iald dX6_tries_18 mH_a0 rfl (by omega) (by decide) ?_
      refine j_iast dX6_tries_19 mH_a1 rfl (by omega) (by decide) _ (show _ = (mH σ a0 (va_cpy a0 a1 0 0 (i + 1)) a2 a3 a4 a5 a6 a7 a8 a9 a10 a11 i0 i1 i2 i3 i4 i5 i6 i7 i8 i9 i10 i11) by rw [← cpy_s, Nat.zero_add]; exact mH_s1) ?_
      first | refine j_iincN dX6_tries_20 rfl (Nat.le_of_ble_eq_true rfl) rfl ?_ | refine j_iinc _ dX6_tries_20 rfl rfl (Nat.le_of_ble_eq_true rfl) rfl ?_
      refine j_goto 2 dX6_tries_23 (by decide) ?_
      exact ih (i + 1) (by omega) (by omega)
    · obtain rfl : i = 96 := by omega
      refine j_arr a0 mH_a1 (fun j hj => by rw [pk_cpy_in (by omega) (by omega)]; simp) _ mH_s1 ?_
      refine j_iload_n dX6_tries_2 rfl rfl ?_
      refine j_bipush (nI 96) dX6_tries_3 rfl ?_
      refine j_icmp_geN 26 dX6_tries_5 (by decide) (by omega) (by omega) (fun b5 => ?_) (fun b5 => by exfalso; omega)
      exact j_vret rfl dX6_tries_26 rfl (Nat.le_of_ble_eq_true rfl) (Nat.le_of_ble_eq_true rfl)
theorem m_leaves {tr : Nat} (x : Int32) (ht : tr < 16) : Ct G yX6_leaves cX6_leaves 2 none 1 0 0 z (mH σ a0 a1 a2 a3 a4 a5 a6 a7 a8 a9 a10 a11 i0 i1 i2 i3 i4 i5 i6 i7 i8 i9 i10 (nI tr)) [.ref 171, .int x] none z (mH σ a0 a1 a2 a3 a4 a5 a6 a7 a8 a9 a10 (upd a11 tr x) i0 i1 i2 i3 i4 i5 i6 i7 i8 i9 i10 (nI (tr + 1))) := by
  refine Ct.ofJ RX6 rfl [some (.ref 171), some (.int x)] rfl (by decide) (by simp [Value.category]) ?_
  refine j_aload_n dX6_leaves_0 rfl rfl ?_
  refine j_getf dX6_leaves_1 6 23 rfl (Nat.le_of_ble_eq_true rfl) fl_X6_210 in_6 mH_o rfl ?_
  refine j_bipush (nI 16) dX6_leaves_4 rfl ?_
  refine j_icmp_geN 29 dX6_leaves_6 (by decide) (by omega) (by omega) (fun b6 => by exfalso; omega) (fun b6 => ?_)
  refine j_aload_n dX6_leaves_9 rfl rfl ?_
  refine j_getf dX6_leaves_10 6 22 rfl (Nat.le_of_ble_eq_true rfl) fl_X6_44 in_6 mH_o rfl ?_
  refine j_aload_n dX6_leaves_13 rfl rfl ?_
  refine j_getf dX6_leaves_14 6 23 rfl (Nat.le_of_ble_eq_true rfl) fl_X6_210 in_6 mH_o rfl ?_
  refine j_iload_n dX6_leaves_17 rfl rfl ?_
  refine j_iast dX6_leaves_18 mH_a11 rfl (by omega) (by decide) _ mH_s11 ?_
  refine j_aload_n dX6_leaves_19 rfl rfl ?_
  refine j_dup dX6_leaves_20 rfl ?_
  refine j_getf dX6_leaves_21 6 23 rfl (Nat.le_of_ble_eq_true rfl) fl_X6_210 in_6 mH_o rfl ?_
  refine j_iconst (nI 1) dX6_leaves_24 rfl ?_
  first | refine j_iaddN dX6_leaves_25 ?_ | refine j_iadd dX6_leaves_25 ?_
  refine j_putf dX6_leaves_26 6 23 rfl (Nat.le_of_ble_eq_true rfl) fl_X6_210 in_6 tyX6 tyX6_ok nmX6 rfl rfl mH_o (Nat.le_of_ble_eq_true rfl) _ mH_p11 ?_
  exact j_vret rfl dX6_leaves_29 rfl (Nat.le_of_ble_eq_true rfl) (Nat.le_of_ble_eq_true rfl)
end M1

/-! THE CLASS's calls: paint, hedge, quarter, undo, person, images, kinds, counts, cheats, walk -/
theorem dX5_image_0 : decode cX5_image 0 = .ok (.iload_n 1, 1) := by decide +kernel
theorem dX5_image_1 : decode cX5_image 1 = .ok (.ifCond .lt 8, 3) := by decide +kernel
theorem dX5_image_4 : decode cX5_image 4 = .ok (.iload_n 1, 1) := by decide +kernel
theorem dX5_image_5 : decode cX5_image 5 = .ok (.iconst 2, 1) := by decide +kernel
theorem dX5_image_6 : decode cX5_image 6 = .ok (.if_icmp .lt 6, 3) := by decide +kernel
theorem dX5_image_9 : decode cX5_image 9 = .ok (.ldc 59, 2) := by decide +kernel
theorem dX5_image_11 : decode cX5_image 11 = .ok (.ireturn, 1) := by decide +kernel
theorem dX5_image_12 : decode cX5_image 12 = .ok (.aload_n 0, 1) := by decide +kernel
theorem dX5_image_13 : decode cX5_image 13 = .ok (.invokevirtual 170, 3) := by decide +kernel
theorem dX5_image_16 : decode cX5_image 16 = .ok (.ifCond .eq 6, 3) := by decide +kernel
theorem dX5_image_19 : decode cX5_image 19 = .ok (.ldc 140, 2) := by decide +kernel
theorem dX5_image_21 : decode cX5_image 21 = .ok (.ireturn, 1) := by decide +kernel
theorem dX5_image_22 : decode cX5_image 22 = .ok (.aload_n 0, 1) := by decide +kernel
theorem dX5_image_23 : decode cX5_image 23 = .ok (.getfield 40, 3) := by decide +kernel
theorem dX5_image_26 : decode cX5_image 26 = .ok (.iload_n 1, 1) := by decide +kernel
theorem dX5_image_27 : decode cX5_image 27 = .ok (.aaload, 1) := by decide +kernel
theorem dX5_image_28 : decode cX5_image 28 = .ok (.aload_n 0, 1) := by decide +kernel
theorem dX5_image_29 : decode cX5_image 29 = .ok (.getfield 26, 3) := by decide +kernel
theorem dX5_image_32 : decode cX5_image 32 = .ok (.invokevirtual 124, 3) := by decide +kernel
theorem dX5_image_35 : decode cX5_image 35 = .ok (.iconst 1, 1) := by decide +kernel
theorem dX5_image_36 : decode cX5_image 36 = .ok (.ireturn, 1) := by decide +kernel
theorem dX5_restore_0 : decode cX5_restore 0 = .ok (.iload_n 1, 1) := by decide +kernel
theorem dX5_restore_1 : decode cX5_restore 1 = .ok (.ifCond .lt 8, 3) := by decide +kernel
theorem dX5_restore_4 : decode cX5_restore 4 = .ok (.iload_n 1, 1) := by decide +kernel
theorem dX5_restore_5 : decode cX5_restore 5 = .ok (.iconst 2, 1) := by decide +kernel
theorem dX5_restore_6 : decode cX5_restore 6 = .ok (.if_icmp .lt 6, 3) := by decide +kernel
theorem dX5_restore_9 : decode cX5_restore 9 = .ok (.ldc 59, 2) := by decide +kernel
theorem dX5_restore_11 : decode cX5_restore 11 = .ok (.ireturn, 1) := by decide +kernel
theorem dX5_restore_12 : decode cX5_restore 12 = .ok (.aload_n 0, 1) := by decide +kernel
theorem dX5_restore_13 : decode cX5_restore 13 = .ok (.getfield 40, 3) := by decide +kernel
theorem dX5_restore_16 : decode cX5_restore 16 = .ok (.iload_n 1, 1) := by decide +kernel
theorem dX5_restore_17 : decode cX5_restore 17 = .ok (.aaload, 1) := by decide +kernel
theorem dX5_restore_18 : decode cX5_restore 18 = .ok (.getfield 131, 3) := by decide +kernel
theorem dX5_restore_21 : decode cX5_restore 21 = .ok (.ifCond .ne 6, 3) := by decide +kernel
theorem dX5_restore_24 : decode cX5_restore 24 = .ok (.ldc 140, 2) := by decide +kernel
theorem dX5_restore_26 : decode cX5_restore 26 = .ok (.ireturn, 1) := by decide +kernel
theorem dX5_restore_27 : decode cX5_restore 27 = .ok (.aload_n 0, 1) := by decide +kernel
theorem dX5_restore_28 : decode cX5_restore 28 = .ok (.getfield 26, 3) := by decide +kernel
theorem dX5_restore_31 : decode cX5_restore 31 = .ok (.aload_n 0, 1) := by decide +kernel
theorem dX5_restore_32 : decode cX5_restore 32 = .ok (.getfield 40, 3) := by decide +kernel
theorem dX5_restore_35 : decode cX5_restore 35 = .ok (.iload_n 1, 1) := by decide +kernel
theorem dX5_restore_36 : decode cX5_restore 36 = .ok (.aaload, 1) := by decide +kernel
theorem dX5_restore_37 : decode cX5_restore 37 = .ok (.invokevirtual 124, 3) := by decide +kernel
theorem dX5_restore_40 : decode cX5_restore 40 = .ok (.aload_n 0, 1) := by decide +kernel
theorem dX5_restore_41 : decode cX5_restore 41 = .ok (.getfield 36, 3) := by decide +kernel
theorem dX5_restore_44 : decode cX5_restore 44 = .ok (.invokevirtual 128, 3) := by decide +kernel
theorem dX5_restore_47 : decode cX5_restore 47 = .ok (.iconst 1, 1) := by decide +kernel
theorem dX5_restore_48 : decode cX5_restore 48 = .ok (.ireturn, 1) := by decide +kernel
theorem dX5_kind_0 : decode cX5_kind 0 = .ok (.aload_n 0, 1) := by decide +kernel
theorem dX5_kind_1 : decode cX5_kind 1 = .ok (.iload_n 1, 1) := by decide +kernel
theorem dX5_kind_2 : decode cX5_kind 2 = .ok (.invokevirtual 155, 3) := by decide +kernel
theorem dX5_kind_5 : decode cX5_kind 5 = .ok (.ifCond .eq 6, 3) := by decide +kernel
theorem dX5_kind_8 : decode cX5_kind 8 = .ok (.ldc 59, 2) := by decide +kernel
theorem dX5_kind_10 : decode cX5_kind 10 = .ok (.ireturn, 1) := by decide +kernel
theorem dX5_kind_11 : decode cX5_kind 11 = .ok (.aload_n 0, 1) := by decide +kernel
theorem dX5_kind_12 : decode cX5_kind 12 = .ok (.getfield 26, 3) := by decide +kernel
theorem dX5_kind_15 : decode cX5_kind 15 = .ok (.iload_n 1, 1) := by decide +kernel
theorem dX5_kind_16 : decode cX5_kind 16 = .ok (.invokevirtual 230, 3) := by decide +kernel
theorem dX5_kind_19 : decode cX5_kind 19 = .ok (.ireturn, 1) := by decide +kernel
theorem dX5_as_0 : decode cX5_as 0 = .ok (.aload_n 0, 1) := by decide +kernel
theorem dX5_as_1 : decode cX5_as 1 = .ok (.iload_n 1, 1) := by decide +kernel
theorem dX5_as_2 : decode cX5_as 2 = .ok (.invokevirtual 155, 3) := by decide +kernel
theorem dX5_as_5 : decode cX5_as 5 = .ok (.ifCond .ne 13, 3) := by decide +kernel
theorem dX5_as_8 : decode cX5_as 8 = .ok (.iload_n 2, 1) := by decide +kernel
theorem dX5_as_9 : decode cX5_as 9 = .ok (.ifCond .lt 9, 3) := by decide +kernel
theorem dX5_as_12 : decode cX5_as 12 = .ok (.iload_n 2, 1) := by decide +kernel
theorem dX5_as_13 : decode cX5_as 13 = .ok (.bipush 6, 2) := by decide +kernel
theorem dX5_as_15 : decode cX5_as 15 = .ok (.if_icmp .lt 6, 3) := by decide +kernel
theorem dX5_as_18 : decode cX5_as 18 = .ok (.ldc 59, 2) := by decide +kernel
theorem dX5_as_20 : decode cX5_as 20 = .ok (.ireturn, 1) := by decide +kernel
theorem dX5_as_21 : decode cX5_as 21 = .ok (.getstatic 233, 3) := by decide +kernel
theorem dX5_as_24 : decode cX5_as 24 = .ok (.aload_n 0, 1) := by decide +kernel
theorem dX5_as_25 : decode cX5_as 25 = .ok (.getfield 26, 3) := by decide +kernel
theorem dX5_as_28 : decode cX5_as 28 = .ok (.iload_n 1, 1) := by decide +kernel
theorem dX5_as_29 : decode cX5_as 29 = .ok (.invokevirtual 230, 3) := by decide +kernel
theorem dX5_as_32 : decode cX5_as 32 = .ok (.iaload, 1) := by decide +kernel
theorem dX5_as_33 : decode cX5_as 33 = .ok (.iload_n 2, 1) := by decide +kernel
theorem dX5_as_34 : decode cX5_as 34 = .ok (.invokestatic 167, 3) := by decide +kernel
theorem dX5_as_37 : decode cX5_as 37 = .ok (.ifCond .ne 9, 3) := by decide +kernel
theorem dX5_as_40 : decode cX5_as 40 = .ok (.aload_n 0, 1) := by decide +kernel
theorem dX5_as_41 : decode cX5_as 41 = .ok (.iconst 3, 1) := by decide +kernel
theorem dX5_as_42 : decode cX5_as 42 = .ok (.invokevirtual 60, 3) := by decide +kernel
theorem dX5_as_45 : decode cX5_as 45 = .ok (.ireturn, 1) := by decide +kernel
theorem dX5_as_46 : decode cX5_as 46 = .ok (.aload_n 0, 1) := by decide +kernel
theorem dX5_as_47 : decode cX5_as 47 = .ok (.iload_n 1, 1) := by decide +kernel
theorem dX5_as_48 : decode cX5_as 48 = .ok (.invokevirtual 68, 3) := by decide +kernel
theorem dX5_as_51 : decode cX5_as 51 = .ok (.ireturn, 1) := by decide +kernel
theorem dX5_trace_0 : decode cX5_trace 0 = .ok (.iload_n 1, 1) := by decide +kernel
theorem dX5_trace_1 : decode cX5_trace 1 = .ok (.ifCond .lt 14, 3) := by decide +kernel
theorem dX5_trace_4 : decode cX5_trace 4 = .ok (.iload_n 1, 1) := by decide +kernel
theorem dX5_trace_5 : decode cX5_trace 5 = .ok (.aload_n 0, 1) := by decide +kernel
theorem dX5_trace_6 : decode cX5_trace 6 = .ok (.getfield 47, 3) := by decide +kernel
theorem dX5_trace_9 : decode cX5_trace 9 = .ok (.getfield 240, 3) := by decide +kernel
theorem dX5_trace_12 : decode cX5_trace 12 = .ok (.if_icmp .lt 6, 3) := by decide +kernel
theorem dX5_trace_15 : decode cX5_trace 15 = .ok (.ldc 220, 2) := by decide +kernel
theorem dX5_trace_17 : decode cX5_trace 17 = .ok (.ireturn, 1) := by decide +kernel
theorem dX5_trace_18 : decode cX5_trace 18 = .ok (.aload_n 0, 1) := by decide +kernel
theorem dX5_trace_19 : decode cX5_trace 19 = .ok (.getfield 47, 3) := by decide +kernel
theorem dX5_trace_22 : decode cX5_trace 22 = .ok (.getfield 243, 3) := by decide +kernel
theorem dX5_trace_25 : decode cX5_trace 25 = .ok (.iload_n 1, 1) := by decide +kernel
theorem dX5_trace_26 : decode cX5_trace 26 = .ok (.iaload, 1) := by decide +kernel
theorem dX5_trace_27 : decode cX5_trace 27 = .ok (.ireturn, 1) := by decide +kernel
theorem dX5_count_0 : decode cX5_count 0 = .ok (.iload_n 1, 1) := by decide +kernel
theorem dX5_count_1 : decode cX5_count 1 = .ok (.tableswitch 96 0 6 #[43, 48, 56, 64, 72, 80, 88], 43) := by decide +kernel
theorem dX5_count_44 : decode cX5_count 44 = .ok (.aload_n 0, 1) := by decide +kernel
theorem dX5_count_45 : decode cX5_count 45 = .ok (.invokevirtual 246, 3) := by decide +kernel
theorem dX5_count_48 : decode cX5_count 48 = .ok (.ireturn, 1) := by decide +kernel
theorem dX5_count_49 : decode cX5_count 49 = .ok (.aload_n 0, 1) := by decide +kernel
theorem dX5_count_50 : decode cX5_count 50 = .ok (.getfield 26, 3) := by decide +kernel
theorem dX5_count_53 : decode cX5_count 53 = .ok (.getfield 131, 3) := by decide +kernel
theorem dX5_count_56 : decode cX5_count 56 = .ok (.ireturn, 1) := by decide +kernel
theorem dX5_count_57 : decode cX5_count 57 = .ok (.aload_n 0, 1) := by decide +kernel
theorem dX5_count_58 : decode cX5_count 58 = .ok (.getfield 26, 3) := by decide +kernel
theorem dX5_count_61 : decode cX5_count 61 = .ok (.invokevirtual 249, 3) := by decide +kernel
theorem dX5_count_64 : decode cX5_count 64 = .ok (.ireturn, 1) := by decide +kernel
theorem dX5_count_65 : decode cX5_count 65 = .ok (.aload_n 0, 1) := by decide +kernel
theorem dX5_count_66 : decode cX5_count 66 = .ok (.getfield 26, 3) := by decide +kernel
theorem dX5_count_69 : decode cX5_count 69 = .ok (.getfield 174, 3) := by decide +kernel
theorem dX5_count_72 : decode cX5_count 72 = .ok (.ireturn, 1) := by decide +kernel
theorem dX5_count_73 : decode cX5_count 73 = .ok (.aload_n 0, 1) := by decide +kernel
theorem dX5_count_74 : decode cX5_count 74 = .ok (.getfield 36, 3) := by decide +kernel
theorem dX5_count_77 : decode cX5_count 77 = .ok (.getfield 181, 3) := by decide +kernel
theorem dX5_count_80 : decode cX5_count 80 = .ok (.ireturn, 1) := by decide +kernel
theorem dX5_count_81 : decode cX5_count 81 = .ok (.aload_n 0, 1) := by decide +kernel
theorem dX5_count_82 : decode cX5_count 82 = .ok (.getfield 26, 3) := by decide +kernel
theorem dX5_count_85 : decode cX5_count 85 = .ok (.invokevirtual 252, 3) := by decide +kernel
theorem dX5_count_88 : decode cX5_count 88 = .ok (.ireturn, 1) := by decide +kernel
theorem dX5_count_89 : decode cX5_count 89 = .ok (.aload_n 0, 1) := by decide +kernel
theorem dX5_count_90 : decode cX5_count 90 = .ok (.getfield 19, 3) := by decide +kernel
theorem dX5_count_93 : decode cX5_count 93 = .ok (.getfield 102, 3) := by decide +kernel
theorem dX5_count_96 : decode cX5_count 96 = .ok (.ireturn, 1) := by decide +kernel
theorem dX5_count_97 : decode cX5_count 97 = .ok (.ldc 59, 2) := by decide +kernel
theorem dX5_count_99 : decode cX5_count 99 = .ok (.ireturn, 1) := by decide +kernel
theorem dX5_rowsThere_0 : decode cX5_rowsThere 0 = .ok (.iconst 0, 1) := by decide +kernel
theorem dX5_rowsThere_1 : decode cX5_rowsThere 1 = .ok (.istore_n 1, 1) := by decide +kernel
theorem dX5_rowsThere_2 : decode cX5_rowsThere 2 = .ok (.iconst 0, 1) := by decide +kernel
theorem dX5_rowsThere_3 : decode cX5_rowsThere 3 = .ok (.istore_n 2, 1) := by decide +kernel
theorem dX5_rowsThere_4 : decode cX5_rowsThere 4 = .ok (.iload_n 2, 1) := by decide +kernel
theorem dX5_rowsThere_5 : decode cX5_rowsThere 5 = .ok (.bipush 8, 2) := by decide +kernel
theorem dX5_rowsThere_7 : decode cX5_rowsThere 7 = .ok (.if_icmp .ge 24, 3) := by decide +kernel
theorem dX5_rowsThere_10 : decode cX5_rowsThere 10 = .ok (.aload_n 0, 1) := by decide +kernel
theorem dX5_rowsThere_11 : decode cX5_rowsThere 11 = .ok (.getfield 11, 3) := by decide +kernel
theorem dX5_rowsThere_14 : decode cX5_rowsThere 14 = .ok (.iload_n 2, 1) := by decide +kernel
theorem dX5_rowsThere_15 : decode cX5_rowsThere 15 = .ok (.aaload, 1) := by decide +kernel
theorem dX5_rowsThere_16 : decode cX5_rowsThere 16 = .ok (.invokevirtual 71, 3) := by decide +kernel
theorem dX5_rowsThere_19 : decode cX5_rowsThere 19 = .ok (.ifCond .ne 6, 3) := by decide +kernel
theorem dX5_rowsThere_22 : decode cX5_rowsThere 22 = .ok (.iinc 1 1, 3) := by decide +kernel
theorem dX5_rowsThere_25 : decode cX5_rowsThere 25 = .ok (.iinc 2 1, 3) := by decide +kernel
theorem dX5_rowsThere_28 : decode cX5_rowsThere 28 = .ok (.goto (-24), 3) := by decide +kernel
theorem dX5_rowsThere_31 : decode cX5_rowsThere 31 = .ok (.iload_n 1, 1) := by decide +kernel
theorem dX5_rowsThere_32 : decode cX5_rowsThere 32 = .ok (.ireturn, 1) := by decide +kernel
theorem dX5_cheats_0 : decode cX5_cheats 0 = .ok (.aload_n 0, 1) := by decide +kernel
theorem dX5_cheats_1 : decode cX5_cheats 1 = .ok (.invokevirtual 170, 3) := by decide +kernel
theorem dX5_cheats_4 : decode cX5_cheats 4 = .ok (.ifCond .eq 6, 3) := by decide +kernel
theorem dX5_cheats_7 : decode cX5_cheats 7 = .ok (.ldc 140, 2) := by decide +kernel
theorem dX5_cheats_9 : decode cX5_cheats 9 = .ok (.ireturn, 1) := by decide +kernel
theorem dX5_cheats_10 : decode cX5_cheats 10 = .ok (.iconst 0, 1) := by decide +kernel
theorem dX5_cheats_11 : decode cX5_cheats 11 = .ok (.istore_n 1, 1) := by decide +kernel
theorem dX5_cheats_12 : decode cX5_cheats 12 = .ok (.iconst 0, 1) := by decide +kernel
theorem dX5_cheats_13 : decode cX5_cheats 13 = .ok (.istore_n 2, 1) := by decide +kernel
theorem dX5_cheats_14 : decode cX5_cheats 14 = .ok (.iload_n 2, 1) := by decide +kernel
theorem dX5_cheats_15 : decode cX5_cheats 15 = .ok (.aload_n 0, 1) := by decide +kernel
theorem dX5_cheats_16 : decode cX5_cheats 16 = .ok (.getfield 26, 3) := by decide +kernel
theorem dX5_cheats_19 : decode cX5_cheats 19 = .ok (.getfield 131, 3) := by decide +kernel
theorem dX5_cheats_22 : decode cX5_cheats 22 = .ok (.if_icmp .ge 34, 3) := by decide +kernel
theorem dX5_cheats_25 : decode cX5_cheats 25 = .ok (.aload_n 0, 1) := by decide +kernel
theorem dX5_cheats_26 : decode cX5_cheats 26 = .ok (.getfield 26, 3) := by decide +kernel
theorem dX5_cheats_29 : decode cX5_cheats 29 = .ok (.iload_n 2, 1) := by decide +kernel
theorem dX5_cheats_30 : decode cX5_cheats 30 = .ok (.invokevirtual 158, 3) := by decide +kernel
theorem dX5_cheats_33 : decode cX5_cheats 33 = .ok (.aload_n 0, 1) := by decide +kernel
theorem dX5_cheats_34 : decode cX5_cheats 34 = .ok (.getfield 26, 3) := by decide +kernel
theorem dX5_cheats_37 : decode cX5_cheats 37 = .ok (.iload_n 2, 1) := by decide +kernel
theorem dX5_cheats_38 : decode cX5_cheats 38 = .ok (.invokevirtual 193, 3) := by decide +kernel
theorem dX5_cheats_41 : decode cX5_cheats 41 = .ok (.if_icmp .ge 9, 3) := by decide +kernel
theorem dX5_cheats_44 : decode cX5_cheats 44 = .ok (.iload_n 1, 1) := by decide +kernel
theorem dX5_cheats_45 : decode cX5_cheats 45 = .ok (.iconst 1, 1) := by decide +kernel
theorem dX5_cheats_46 : decode cX5_cheats 46 = .ok (.iload_n 2, 1) := by decide +kernel
theorem dX5_cheats_47 : decode cX5_cheats 47 = .ok (.ishl, 1) := by decide +kernel
theorem dX5_cheats_48 : decode cX5_cheats 48 = .ok (.ior, 1) := by decide +kernel
theorem dX5_cheats_49 : decode cX5_cheats 49 = .ok (.istore_n 1, 1) := by decide +kernel
theorem dX5_cheats_50 : decode cX5_cheats 50 = .ok (.iinc 2 1, 3) := by decide +kernel
theorem dX5_cheats_53 : decode cX5_cheats 53 = .ok (.goto (-39), 3) := by decide +kernel
theorem dX5_cheats_56 : decode cX5_cheats 56 = .ok (.iload_n 1, 1) := by decide +kernel
theorem dX5_cheats_57 : decode cX5_cheats 57 = .ok (.ireturn, 1) := by decide +kernel
theorem dX5_walk_0 : decode cX5_walk 0 = .ok (.aload_n 0, 1) := by decide +kernel
theorem dX5_walk_1 : decode cX5_walk 1 = .ok (.iload_n 1, 1) := by decide +kernel
theorem dX5_walk_2 : decode cX5_walk 2 = .ok (.invokevirtual 155, 3) := by decide +kernel
theorem dX5_walk_5 : decode cX5_walk 5 = .ok (.ifCond .ne 16, 3) := by decide +kernel
theorem dX5_walk_8 : decode cX5_walk 8 = .ok (.aload_n 0, 1) := by decide +kernel
theorem dX5_walk_9 : decode cX5_walk 9 = .ok (.iload_n 2, 1) := by decide +kernel
theorem dX5_walk_10 : decode cX5_walk 10 = .ok (.invokevirtual 155, 3) := by decide +kernel
theorem dX5_walk_13 : decode cX5_walk 13 = .ok (.ifCond .ne 8, 3) := by decide +kernel
theorem dX5_walk_16 : decode cX5_walk 16 = .ok (.iload_n 1, 1) := by decide +kernel
theorem dX5_walk_17 : decode cX5_walk 17 = .ok (.iload_n 2, 1) := by decide +kernel
theorem dX5_walk_18 : decode cX5_walk 18 = .ok (.if_icmp .le 6, 3) := by decide +kernel
theorem dX5_walk_21 : decode cX5_walk 21 = .ok (.ldc 59, 2) := by decide +kernel
theorem dX5_walk_23 : decode cX5_walk 23 = .ok (.ireturn, 1) := by decide +kernel
theorem dX5_walk_24 : decode cX5_walk 24 = .ok (.ldc 220, 2) := by decide +kernel
theorem dX5_walk_26 : decode cX5_walk 26 = .ok (.istore_n 3, 1) := by decide +kernel
theorem dX5_walk_27 : decode cX5_walk 27 = .ok (.bipush 10, 2) := by decide +kernel
theorem dX5_walk_29 : decode cX5_walk 29 = .ok (.istore 4, 2) := by decide +kernel
theorem dX5_walk_31 : decode cX5_walk 31 = .ok (.iload_n 1, 1) := by decide +kernel
theorem dX5_walk_32 : decode cX5_walk 32 = .ok (.istore 5, 2) := by decide +kernel
theorem dX5_walk_34 : decode cX5_walk 34 = .ok (.iload 5, 2) := by decide +kernel
theorem dX5_walk_36 : decode cX5_walk 36 = .ok (.iload_n 2, 1) := by decide +kernel
theorem dX5_walk_37 : decode cX5_walk 37 = .ok (.if_icmp .gt 52, 3) := by decide +kernel
theorem dX5_walk_40 : decode cX5_walk 40 = .ok (.aload_n 0, 1) := by decide +kernel
theorem dX5_walk_41 : decode cX5_walk 41 = .ok (.getfield 26, 3) := by decide +kernel
theorem dX5_walk_44 : decode cX5_walk 44 = .ok (.getfield 164, 3) := by decide +kernel
theorem dX5_walk_47 : decode cX5_walk 47 = .ok (.iload 5, 2) := by decide +kernel
theorem dX5_walk_49 : decode cX5_walk 49 = .ok (.invokestatic 167, 3) := by decide +kernel
theorem dX5_walk_52 : decode cX5_walk 52 = .ok (.ifCond .ne 31, 3) := by decide +kernel
theorem dX5_walk_55 : decode cX5_walk 55 = .ok (.aload_n 0, 1) := by decide +kernel
theorem dX5_walk_56 : decode cX5_walk 56 = .ok (.getfield 26, 3) := by decide +kernel
theorem dX5_walk_59 : decode cX5_walk 59 = .ok (.iload 5, 2) := by decide +kernel
theorem dX5_walk_61 : decode cX5_walk 61 = .ok (.invokevirtual 158, 3) := by decide +kernel
theorem dX5_walk_64 : decode cX5_walk 64 = .ok (.iload 4, 2) := by decide +kernel
theorem dX5_walk_66 : decode cX5_walk 66 = .ok (.if_icmp .ge 17, 3) := by decide +kernel
theorem dX5_walk_69 : decode cX5_walk 69 = .ok (.aload_n 0, 1) := by decide +kernel
theorem dX5_walk_70 : decode cX5_walk 70 = .ok (.getfield 26, 3) := by decide +kernel
theorem dX5_walk_73 : decode cX5_walk 73 = .ok (.iload 5, 2) := by decide +kernel
theorem dX5_walk_75 : decode cX5_walk 75 = .ok (.invokevirtual 158, 3) := by decide +kernel
theorem dX5_walk_78 : decode cX5_walk 78 = .ok (.istore 4, 2) := by decide +kernel
theorem dX5_walk_80 : decode cX5_walk 80 = .ok (.iload 5, 2) := by decide +kernel
theorem dX5_walk_82 : decode cX5_walk 82 = .ok (.istore_n 3, 1) := by decide +kernel
theorem dX5_walk_83 : decode cX5_walk 83 = .ok (.iinc 5 1, 3) := by decide +kernel
theorem dX5_walk_86 : decode cX5_walk 86 = .ok (.goto (-52), 3) := by decide +kernel
theorem dX5_walk_89 : decode cX5_walk 89 = .ok (.iload_n 3, 1) := by decide +kernel
theorem dX5_walk_90 : decode cX5_walk 90 = .ok (.ireturn, 1) := by decide +kernel
def chI (pa de : Nat → Int32) (N u : Nat) : Nat → Int32
  | 0 => nI 0
  | p + 1 => if shd de N u p ≤ lks pa de N u p then chI pa de N u p else orI (chI pa de N u p) p
def wlk (pa de : Nat → Int32) (hi : Int32) (N u a : Nat) : Nat → Int32 × Int32
  | 0 => (-1000000, nI 10)
  | k + 1 => if bitI hi (nI (a + k)) = 0 ∧ lks pa de N u (a + k) < (wlk pa de hi N u a k).2 then (nI (a + k), lks pa de N u (a + k)) else wlk pa de hi N u a k
def cntR (rl : Nat → Int32) : Nat → Nat
  | 0 => 0
  | k + 1 => if rl k = -1 then cntR rl k else cntR rl k + 1
theorem tb0_at (q : Nat) (h : q < 6) : tb0.getD q 0 = tb0.getD q 0 := rfl
section O3
variable {G : GG} {z : Nat} {σ : AH} {lf fd : Int32} {rl rn : Nat → Int32} {ri : Nat → Nat → Int32} {tp rd : Nat → Int32} {dd d df : TS} {nx kp : Nat} {da di : Nat → TS} {tr : Nat} {bo ne : Nat → Int32}
theorem x_paint_bad (X : XR σ lf fd rl rn ri tp rd dd d df nx kp da di tr bo ne) (p v : Int32) (h : ¬ npI p (sN d) = 0 ∨ v < 0 ∨ nI 9 < v) : Ct G yX5_paint cX5_paint 4 (some .int) 5 0 0 z σ [.ref 0, .int p, .int v] (some (.int (-1000001))) z σ := by
  refine Ct.ofJ RX5 rfl [some (.ref 0), some (.int p), some (.int v), none] rfl (by decide) (by simp [Value.category]) ?_
  refine j_aload_n dX5_paint_0 rfl rfl ?_
  refine j_iload_n dX5_paint_1 rfl rfl ?_
  refine j_callV (c_isNoPerson X p) dX5_paint_2 rfl mv_X5_155 (by first | exact X.1 | exact X.2.1 | exact X.2.2.2.1 | exact X.2.2.2.2.1 | exact X.2.2.2.2.2.2.1.o | exact X.2.2.2.2.2.2.1.c | exact X.2.2.2.2.2.2.1.i | exact X.2.2.2.2.2.2.1.p | exact X.2.2.2.2.2.2.1.d | exact X.2.2.2.2.2.2.2.1.o | exact X.2.2.2.2.2.2.2.2.1 | exact X.2.2.2.2.2.2.2.2.2.1 | exact X.2.2.2.2.2.2.2.2.2.2.2.1 | exact X.2.2.2.2.2.2.2.2.2.2.2.2.2.1 | exact X.2.2.2.2.2.2.2.2.2.2.2.2.2.2.1 | exact X.2.2.2.2.2.2.2.2.2.2.2.2.2.2.2) rfl ⟨(Nat.le_of_ble_eq_true rfl), (Nat.le_of_ble_eq_true rfl)⟩ ⟨(Nat.le_of_ble_eq_true rfl), (Nat.le_of_ble_eq_true rfl)⟩ (Nat.le_of_ble_eq_true rfl) ?_
  refine j_if_ne 18 dX5_paint_5 (by decide) (fun b5 => ?_) (fun b5 => ?_)
  · refine j_ldc (-1000001) dX5_paint_18 kc_X5_59 ?_
    exact j_iret rfl dX5_paint_20 rfl rfl (Nat.le_of_ble_eq_true rfl) (Nat.le_of_ble_eq_true rfl)
  · refine j_iload_n dX5_paint_8 rfl rfl ?_
    refine j_if_lt 18 dX5_paint_9 (by decide) (fun b9 => ?_) (fun b9 => ?_)
    · refine j_ldc (-1000001) dX5_paint_18 kc_X5_59 ?_
      exact j_iret rfl dX5_paint_20 rfl rfl (Nat.le_of_ble_eq_true rfl) (Nat.le_of_ble_eq_true rfl)
    · refine j_iload_n dX5_paint_12 rfl rfl ?_
      refine j_bipush (nI 9) dX5_paint_13 rfl ?_
      refine j_icmp_le 21 dX5_paint_15 (by decide) (fun b15 => ?_) (fun b15 => ?_)
      · exfalso
        rcases h with h | h | h
        · exact h b5
        · exact b9 h
        · exact absurd b15 (Int32.not_le.mpr h)
      · refine j_ldc (-1000001) dX5_paint_18 kc_X5_59 ?_
        exact j_iret rfl dX5_paint_20 rfl rfl (Nat.le_of_ble_eq_true rfl) (Nat.le_of_ble_eq_true rfl)
theorem x_paint_ok (X : XR σ lf fd rl rn ri tp rd dd d df nx kp da di tr bo ne) {p : Nat} (hN : sN d ≤ 7) (hp : p < sN d) (hu : 1 ≤ sU d) (hu2 : sU d ≤ 20) (hn : nx < 24) (hkp : kp ≤ 24) (v : Int32) (h1 : ¬ v < 0) (h2 : v ≤ nI 9) : Ct G yX5_paint cX5_paint 4 (some .int) 5 0 0 z σ [.ref 0, .int (nI p), .int v] (some (.int (lks (sP d) (sD d) (sN d) (sU d) p))) z (twS (kpH σ nx kp d) 25 (sC d, sI d, upd (sP d) p v, sD d, sN d, sU d, sR d, sQ d, sH d, sF d)) := by
  refine Ct.ofJ RX5 rfl [some (.ref 0), some (.int (nI p)), some (.int v), none] rfl (by decide) (by simp [Value.category]) ?_
  refine j_aload_n dX5_paint_0 rfl rfl ?_
  refine j_iload_n dX5_paint_1 rfl rfl ?_
  refine j_callV (c_isNoPerson X (nI p)) dX5_paint_2 rfl mv_X5_155 (by first | exact X.1 | exact X.2.1 | exact X.2.2.2.1 | exact X.2.2.2.2.1 | exact X.2.2.2.2.2.2.1.o | exact X.2.2.2.2.2.2.1.c | exact X.2.2.2.2.2.2.1.i | exact X.2.2.2.2.2.2.1.p | exact X.2.2.2.2.2.2.1.d | exact X.2.2.2.2.2.2.2.1.o | exact X.2.2.2.2.2.2.2.2.1 | exact X.2.2.2.2.2.2.2.2.2.1 | exact X.2.2.2.2.2.2.2.2.2.2.2.1 | exact X.2.2.2.2.2.2.2.2.2.2.2.2.2.1 | exact X.2.2.2.2.2.2.2.2.2.2.2.2.2.2.1 | exact X.2.2.2.2.2.2.2.2.2.2.2.2.2.2.2) rfl ⟨(Nat.le_of_ble_eq_true rfl), (Nat.le_of_ble_eq_true rfl)⟩ ⟨(Nat.le_of_ble_eq_true rfl), (Nat.le_of_ble_eq_true rfl)⟩ (Nat.le_of_ble_eq_true rfl) ?_
  refine j_top (nI 0) (npI_k hp hN) ?_
  refine j_if_ne 18 dX5_paint_5 (by decide) (fun h => absurd rfl h) (fun _ => ?_)
  refine j_iload_n dX5_paint_8 rfl rfl ?_
  refine j_if_lt 18 dX5_paint_9 (by decide) (fun b9 => ?_) (fun b9 => ?_)
  · exact absurd b9 h1
  · refine j_iload_n dX5_paint_12 rfl rfl ?_
    refine j_bipush (nI 9) dX5_paint_13 rfl ?_
    refine j_icmp_le 21 dX5_paint_15 (by decide) (fun b15 => ?_) (fun b15 => ?_)
    · refine j_aload_n dX5_paint_21 rfl rfl ?_
      refine j_getf dX5_paint_22 5 4 rfl (Nat.le_of_ble_eq_true rfl) fl_X5_26 in_5 (by first | exact X.1 | exact X.2.1 | exact X.2.2.2.1 | exact X.2.2.2.2.1 | exact X.2.2.2.2.2.2.1.o | exact X.2.2.2.2.2.2.1.c | exact X.2.2.2.2.2.2.1.i | exact X.2.2.2.2.2.2.1.p | exact X.2.2.2.2.2.2.1.d | exact X.2.2.2.2.2.2.2.1.o | exact X.2.2.2.2.2.2.2.2.1 | exact X.2.2.2.2.2.2.2.2.2.1 | exact X.2.2.2.2.2.2.2.2.2.2.2.1 | exact X.2.2.2.2.2.2.2.2.2.2.2.2.2.1 | exact X.2.2.2.2.2.2.2.2.2.2.2.2.2.2.1 | exact X.2.2.2.2.2.2.2.2.2.2.2.2.2.2.2) rfl ?_
      refine j_iload_n dX5_paint_25 rfl rfl ?_
      refine j_callV (c_looksOfS X.2.2.2.2.2.2.1 hN (by omega) hu hu2) dX5_paint_26 rfl mv_X5_158 (by first | exact X.1 | exact X.2.1 | exact X.2.2.2.1 | exact X.2.2.2.2.1 | exact X.2.2.2.2.2.2.1.o | exact X.2.2.2.2.2.2.1.c | exact X.2.2.2.2.2.2.1.i | exact X.2.2.2.2.2.2.1.p | exact X.2.2.2.2.2.2.1.d | exact X.2.2.2.2.2.2.2.1.o | exact X.2.2.2.2.2.2.2.2.1 | exact X.2.2.2.2.2.2.2.2.2.1 | exact X.2.2.2.2.2.2.2.2.2.2.2.1 | exact X.2.2.2.2.2.2.2.2.2.2.2.2.2.1 | exact X.2.2.2.2.2.2.2.2.2.2.2.2.2.2.1 | exact X.2.2.2.2.2.2.2.2.2.2.2.2.2.2.2) rfl ⟨(Nat.le_of_ble_eq_true rfl), (Nat.le_of_ble_eq_true rfl)⟩ ⟨(Nat.le_of_ble_eq_true rfl), (Nat.le_of_ble_eq_true rfl)⟩ (Nat.le_of_ble_eq_true rfl) ?_
      refine j_istore_n dX5_paint_29 rfl (Nat.le_of_ble_eq_true rfl) rfl ?_
      refine j_aload_n dX5_paint_30 rfl rfl ?_
      refine j_getf dX5_paint_31 5 6 rfl (Nat.le_of_ble_eq_true rfl) fl_X5_36 in_5 (by first | exact X.1 | exact X.2.1 | exact X.2.2.2.1 | exact X.2.2.2.2.1 | exact X.2.2.2.2.2.2.1.o | exact X.2.2.2.2.2.2.1.c | exact X.2.2.2.2.2.2.1.i | exact X.2.2.2.2.2.2.1.p | exact X.2.2.2.2.2.2.1.d | exact X.2.2.2.2.2.2.2.1.o | exact X.2.2.2.2.2.2.2.2.1 | exact X.2.2.2.2.2.2.2.2.2.1 | exact X.2.2.2.2.2.2.2.2.2.2.2.1 | exact X.2.2.2.2.2.2.2.2.2.2.2.2.2.1 | exact X.2.2.2.2.2.2.2.2.2.2.2.2.2.2.1 | exact X.2.2.2.2.2.2.2.2.2.2.2.2.2.2.2) rfl ?_
      refine j_aload_n dX5_paint_34 rfl rfl ?_
      refine j_getf dX5_paint_35 5 4 rfl (Nat.le_of_ble_eq_true rfl) fl_X5_26 in_5 (by first | exact X.1 | exact X.2.1 | exact X.2.2.2.1 | exact X.2.2.2.2.1 | exact X.2.2.2.2.2.2.1.o | exact X.2.2.2.2.2.2.1.c | exact X.2.2.2.2.2.2.1.i | exact X.2.2.2.2.2.2.1.p | exact X.2.2.2.2.2.2.1.d | exact X.2.2.2.2.2.2.2.1.o | exact X.2.2.2.2.2.2.2.2.1 | exact X.2.2.2.2.2.2.2.2.2.1 | exact X.2.2.2.2.2.2.2.2.2.2.2.1 | exact X.2.2.2.2.2.2.2.2.2.2.2.2.2.1 | exact X.2.2.2.2.2.2.2.2.2.2.2.2.2.2.1 | exact X.2.2.2.2.2.2.2.2.2.2.2.2.2.2.2) rfl ?_
      refine j_callV (c_keep X hn hkp) dX5_paint_38 rfl mv_X5_145 (by first | exact X.1 | exact X.2.1 | exact X.2.2.2.1 | exact X.2.2.2.2.1 | exact X.2.2.2.2.2.2.1.o | exact X.2.2.2.2.2.2.1.c | exact X.2.2.2.2.2.2.1.i | exact X.2.2.2.2.2.2.1.p | exact X.2.2.2.2.2.2.1.d | exact X.2.2.2.2.2.2.2.1.o | exact X.2.2.2.2.2.2.2.2.1 | exact X.2.2.2.2.2.2.2.2.2.1 | exact X.2.2.2.2.2.2.2.2.2.2.2.1 | exact X.2.2.2.2.2.2.2.2.2.2.2.2.2.1 | exact X.2.2.2.2.2.2.2.2.2.2.2.2.2.2.1 | exact X.2.2.2.2.2.2.2.2.2.2.2.2.2.2.2) rfl ⟨(Nat.le_of_ble_eq_true rfl), (Nat.le_of_ble_eq_true rfl)⟩ ⟨(Nat.le_of_ble_eq_true rfl), (Nat.le_of_ble_eq_true rfl)⟩ (Nat.le_of_ble_eq_true rfl) ?_
      have X := (X.act nx hn d).acts (nxt nx) (min (kp + 1) 24)
      refine j_aload_n dX5_paint_41 rfl rfl ?_
      refine j_getf dX5_paint_42 5 4 rfl (Nat.le_of_ble_eq_true rfl) fl_X5_26 in_5 (by first | exact X.1 | exact X.2.1 | exact X.2.2.2.1 | exact X.2.2.2.2.1 | exact X.2.2.2.2.2.2.1.o | exact X.2.2.2.2.2.2.1.c | exact X.2.2.2.2.2.2.1.i | exact X.2.2.2.2.2.2.1.p | exact X.2.2.2.2.2.2.1.d | exact X.2.2.2.2.2.2.2.1.o | exact X.2.2.2.2.2.2.2.2.1 | exact X.2.2.2.2.2.2.2.2.2.1 | exact X.2.2.2.2.2.2.2.2.2.2.2.1 | exact X.2.2.2.2.2.2.2.2.2.2.2.2.2.1 | exact X.2.2.2.2.2.2.2.2.2.2.2.2.2.2.1 | exact X.2.2.2.2.2.2.2.2.2.2.2.2.2.2.2) rfl ?_
      refine j_getf dX5_paint_45 4 2 rfl (Nat.le_of_ble_eq_true rfl) fl_X5_161 in_4 (by first | exact X.1 | exact X.2.1 | exact X.2.2.2.1 | exact X.2.2.2.2.1 | exact X.2.2.2.2.2.2.1.o | exact X.2.2.2.2.2.2.1.c | exact X.2.2.2.2.2.2.1.i | exact X.2.2.2.2.2.2.1.p | exact X.2.2.2.2.2.2.1.d | exact X.2.2.2.2.2.2.2.1.o | exact X.2.2.2.2.2.2.2.2.1 | exact X.2.2.2.2.2.2.2.2.2.1 | exact X.2.2.2.2.2.2.2.2.2.2.2.1 | exact X.2.2.2.2.2.2.2.2.2.2.2.2.2.1 | exact X.2.2.2.2.2.2.2.2.2.2.2.2.2.2.1 | exact X.2.2.2.2.2.2.2.2.2.2.2.2.2.2.2) rfl ?_
      refine j_iload_n dX5_paint_48 rfl rfl ?_
      refine j_iload_n dX5_paint_49 rfl rfl ?_
      refine j_iast dX5_paint_50 (by first | exact X.1 | exact X.2.1 | exact X.2.2.2.1 | exact X.2.2.2.2.1 | exact X.2.2.2.2.2.2.1.o | exact X.2.2.2.2.2.2.1.c | exact X.2.2.2.2.2.2.1.i | exact X.2.2.2.2.2.2.1.p | exact X.2.2.2.2.2.2.1.d | exact X.2.2.2.2.2.2.2.1.o | exact X.2.2.2.2.2.2.2.2.1 | exact X.2.2.2.2.2.2.2.2.2.1 | exact X.2.2.2.2.2.2.2.2.2.2.2.1 | exact X.2.2.2.2.2.2.2.2.2.2.2.2.2.1 | exact X.2.2.2.2.2.2.2.2.2.2.2.2.2.2.1 | exact X.2.2.2.2.2.2.2.2.2.2.2.2.2.2.2) rfl (by omega) (by decide) _ (by exact X.2.2.2.2.2.2.1.setP) ?_
      refine j_iload_n dX5_paint_51 rfl rfl ?_
      exact j_iret rfl dX5_paint_52 rfl rfl (Nat.le_of_ble_eq_true rfl) (Nat.le_of_ble_eq_true rfl)
    · exact absurd h2 b15
theorem x_hedge_bad (X : XR σ lf fd rl rn ri tp rd dd d df nx kp da di tr bo ne) (p v : Int32) (h : ¬ npI p (sN d) = 0 ∨ v < 0 ∨ nI 1 < v) : Ct G yX5_hedge cX5_hedge 4 (some .int) 4 0 0 z σ [.ref 0, .int p, .int v] (some (.int (-1000001))) z σ := by
  refine Ct.ofJ RX5 rfl [some (.ref 0), some (.int p), some (.int v), none] rfl (by decide) (by simp [Value.category]) ?_
  refine j_aload_n dX5_hedge_0 rfl rfl ?_
  refine j_iload_n dX5_hedge_1 rfl rfl ?_
  refine j_callV (c_isNoPerson X p) dX5_hedge_2 rfl mv_X5_155 (by first | exact X.1 | exact X.2.1 | exact X.2.2.2.1 | exact X.2.2.2.2.1 | exact X.2.2.2.2.2.2.1.o | exact X.2.2.2.2.2.2.1.c | exact X.2.2.2.2.2.2.1.i | exact X.2.2.2.2.2.2.1.p | exact X.2.2.2.2.2.2.1.d | exact X.2.2.2.2.2.2.2.1.o | exact X.2.2.2.2.2.2.2.2.1 | exact X.2.2.2.2.2.2.2.2.2.1 | exact X.2.2.2.2.2.2.2.2.2.2.2.1 | exact X.2.2.2.2.2.2.2.2.2.2.2.2.2.1 | exact X.2.2.2.2.2.2.2.2.2.2.2.2.2.2.1 | exact X.2.2.2.2.2.2.2.2.2.2.2.2.2.2.2) rfl ⟨(Nat.le_of_ble_eq_true rfl), (Nat.le_of_ble_eq_true rfl)⟩ ⟨(Nat.le_of_ble_eq_true rfl), (Nat.le_of_ble_eq_true rfl)⟩ (Nat.le_of_ble_eq_true rfl) ?_
  refine j_if_ne 17 dX5_hedge_5 (by decide) (fun b5 => ?_) (fun b5 => ?_)
  · refine j_ldc (-1000001) dX5_hedge_17 kc_X5_59 ?_
    exact j_iret rfl dX5_hedge_19 rfl rfl (Nat.le_of_ble_eq_true rfl) (Nat.le_of_ble_eq_true rfl)
  · refine j_iload_n dX5_hedge_8 rfl rfl ?_
    refine j_if_lt 17 dX5_hedge_9 (by decide) (fun b9 => ?_) (fun b9 => ?_)
    · refine j_ldc (-1000001) dX5_hedge_17 kc_X5_59 ?_
      exact j_iret rfl dX5_hedge_19 rfl rfl (Nat.le_of_ble_eq_true rfl) (Nat.le_of_ble_eq_true rfl)
    · refine j_iload_n dX5_hedge_12 rfl rfl ?_
      refine j_iconst (nI 1) dX5_hedge_13 rfl ?_
      refine j_icmp_le 20 dX5_hedge_14 (by decide) (fun b14 => ?_) (fun b14 => ?_)
      · exfalso
        rcases h with h | h | h
        · exact h b5
        · exact b9 h
        · exact absurd b14 (Int32.not_le.mpr h)
      · refine j_ldc (-1000001) dX5_hedge_17 kc_X5_59 ?_
        exact j_iret rfl dX5_hedge_19 rfl rfl (Nat.le_of_ble_eq_true rfl) (Nat.le_of_ble_eq_true rfl)
theorem x_hedge_ok (X : XR σ lf fd rl rn ri tp rd dd d df nx kp da di tr bo ne) {p : Nat} (hN : sN d ≤ 7) (hp : p < sN d) (hn : nx < 24) (hkp : kp ≤ 24) (v : Int32) (h1 : ¬ v < 0) (h2 : v ≤ nI 1) : Ct G yX5_hedge cX5_hedge 4 (some .int) 4 0 0 z σ [.ref 0, .int (nI p), .int v] (some (.int (bitI (sH d) (nI p)))) z (twS (kpH σ nx kp d) 25 (sC d, sI d, sP d, sD d, sN d, sU d, sR d, sQ d, clrI (sH d) p ||| (v <<< (nI p &&& 31)), sF d)) := by
  refine Ct.ofJ RX5 rfl [some (.ref 0), some (.int (nI p)), some (.int v), none] rfl (by decide) (by simp [Value.category]) ?_
  refine j_aload_n dX5_hedge_0 rfl rfl ?_
  refine j_iload_n dX5_hedge_1 rfl rfl ?_
  refine j_callV (c_isNoPerson X (nI p)) dX5_hedge_2 rfl mv_X5_155 (by first | exact X.1 | exact X.2.1 | exact X.2.2.2.1 | exact X.2.2.2.2.1 | exact X.2.2.2.2.2.2.1.o | exact X.2.2.2.2.2.2.1.c | exact X.2.2.2.2.2.2.1.i | exact X.2.2.2.2.2.2.1.p | exact X.2.2.2.2.2.2.1.d | exact X.2.2.2.2.2.2.2.1.o | exact X.2.2.2.2.2.2.2.2.1 | exact X.2.2.2.2.2.2.2.2.2.1 | exact X.2.2.2.2.2.2.2.2.2.2.2.1 | exact X.2.2.2.2.2.2.2.2.2.2.2.2.2.1 | exact X.2.2.2.2.2.2.2.2.2.2.2.2.2.2.1 | exact X.2.2.2.2.2.2.2.2.2.2.2.2.2.2.2) rfl ⟨(Nat.le_of_ble_eq_true rfl), (Nat.le_of_ble_eq_true rfl)⟩ ⟨(Nat.le_of_ble_eq_true rfl), (Nat.le_of_ble_eq_true rfl)⟩ (Nat.le_of_ble_eq_true rfl) ?_
  refine j_top (nI 0) (npI_k hp hN) ?_
  refine j_if_ne 17 dX5_hedge_5 (by decide) (fun h => absurd rfl h) (fun _ => ?_)
  refine j_iload_n dX5_hedge_8 rfl rfl ?_
  refine j_if_lt 17 dX5_hedge_9 (by decide) (fun b9 => ?_) (fun b9 => ?_)
  · exact absurd b9 h1
  · refine j_iload_n dX5_hedge_12 rfl rfl ?_
    refine j_iconst (nI 1) dX5_hedge_13 rfl ?_
    refine j_icmp_le 20 dX5_hedge_14 (by decide) (fun b14 => ?_) (fun b14 => ?_)
    · refine j_aload_n dX5_hedge_20 rfl rfl ?_
      refine j_getf dX5_hedge_21 5 4 rfl (Nat.le_of_ble_eq_true rfl) fl_X5_26 in_5 (by first | exact X.1 | exact X.2.1 | exact X.2.2.2.1 | exact X.2.2.2.2.1 | exact X.2.2.2.2.2.2.1.o | exact X.2.2.2.2.2.2.1.c | exact X.2.2.2.2.2.2.1.i | exact X.2.2.2.2.2.2.1.p | exact X.2.2.2.2.2.2.1.d | exact X.2.2.2.2.2.2.2.1.o | exact X.2.2.2.2.2.2.2.2.1 | exact X.2.2.2.2.2.2.2.2.2.1 | exact X.2.2.2.2.2.2.2.2.2.2.2.1 | exact X.2.2.2.2.2.2.2.2.2.2.2.2.2.1 | exact X.2.2.2.2.2.2.2.2.2.2.2.2.2.2.1 | exact X.2.2.2.2.2.2.2.2.2.2.2.2.2.2.2) rfl ?_
      refine j_getf dX5_hedge_24 4 8 rfl (Nat.le_of_ble_eq_true rfl) fl_X5_164 in_4 (by first | exact X.1 | exact X.2.1 | exact X.2.2.2.1 | exact X.2.2.2.2.1 | exact X.2.2.2.2.2.2.1.o | exact X.2.2.2.2.2.2.1.c | exact X.2.2.2.2.2.2.1.i | exact X.2.2.2.2.2.2.1.p | exact X.2.2.2.2.2.2.1.d | exact X.2.2.2.2.2.2.2.1.o | exact X.2.2.2.2.2.2.2.2.1 | exact X.2.2.2.2.2.2.2.2.2.1 | exact X.2.2.2.2.2.2.2.2.2.2.2.1 | exact X.2.2.2.2.2.2.2.2.2.2.2.2.2.1 | exact X.2.2.2.2.2.2.2.2.2.2.2.2.2.2.1 | exact X.2.2.2.2.2.2.2.2.2.2.2.2.2.2.2) rfl ?_
      refine j_iload_n dX5_hedge_27 rfl rfl ?_
      refine j_callS (c_bitOf G z _ (sH d) (nI p)) dX5_hedge_28 rfl ms_X5_167 ⟨(Nat.le_of_ble_eq_true rfl), (Nat.le_of_ble_eq_true rfl)⟩ ⟨(Nat.le_of_ble_eq_true rfl), (Nat.le_of_ble_eq_true rfl)⟩ (Nat.le_of_ble_eq_true rfl) ?_
      refine j_istore_n dX5_hedge_31 rfl (Nat.le_of_ble_eq_true rfl) rfl ?_
      refine j_aload_n dX5_hedge_32 rfl rfl ?_
      refine j_getf dX5_hedge_33 5 6 rfl (Nat.le_of_ble_eq_true rfl) fl_X5_36 in_5 (by first | exact X.1 | exact X.2.1 | exact X.2.2.2.1 | exact X.2.2.2.2.1 | exact X.2.2.2.2.2.2.1.o | exact X.2.2.2.2.2.2.1.c | exact X.2.2.2.2.2.2.1.i | exact X.2.2.2.2.2.2.1.p | exact X.2.2.2.2.2.2.1.d | exact X.2.2.2.2.2.2.2.1.o | exact X.2.2.2.2.2.2.2.2.1 | exact X.2.2.2.2.2.2.2.2.2.1 | exact X.2.2.2.2.2.2.2.2.2.2.2.1 | exact X.2.2.2.2.2.2.2.2.2.2.2.2.2.1 | exact X.2.2.2.2.2.2.2.2.2.2.2.2.2.2.1 | exact X.2.2.2.2.2.2.2.2.2.2.2.2.2.2.2) rfl ?_
      refine j_aload_n dX5_hedge_36 rfl rfl ?_
      refine j_getf dX5_hedge_37 5 4 rfl (Nat.le_of_ble_eq_true rfl) fl_X5_26 in_5 (by first | exact X.1 | exact X.2.1 | exact X.2.2.2.1 | exact X.2.2.2.2.1 | exact X.2.2.2.2.2.2.1.o | exact X.2.2.2.2.2.2.1.c | exact X.2.2.2.2.2.2.1.i | exact X.2.2.2.2.2.2.1.p | exact X.2.2.2.2.2.2.1.d | exact X.2.2.2.2.2.2.2.1.o | exact X.2.2.2.2.2.2.2.2.1 | exact X.2.2.2.2.2.2.2.2.2.1 | exact X.2.2.2.2.2.2.2.2.2.2.2.1 | exact X.2.2.2.2.2.2.2.2.2.2.2.2.2.1 | exact X.2.2.2.2.2.2.2.2.2.2.2.2.2.2.1 | exact X.2.2.2.2.2.2.2.2.2.2.2.2.2.2.2) rfl ?_
      refine j_callV (c_keep X hn hkp) dX5_hedge_40 rfl mv_X5_145 (by first | exact X.1 | exact X.2.1 | exact X.2.2.2.1 | exact X.2.2.2.2.1 | exact X.2.2.2.2.2.2.1.o | exact X.2.2.2.2.2.2.1.c | exact X.2.2.2.2.2.2.1.i | exact X.2.2.2.2.2.2.1.p | exact X.2.2.2.2.2.2.1.d | exact X.2.2.2.2.2.2.2.1.o | exact X.2.2.2.2.2.2.2.2.1 | exact X.2.2.2.2.2.2.2.2.2.1 | exact X.2.2.2.2.2.2.2.2.2.2.2.1 | exact X.2.2.2.2.2.2.2.2.2.2.2.2.2.1 | exact X.2.2.2.2.2.2.2.2.2.2.2.2.2.2.1 | exact X.2.2.2.2.2.2.2.2.2.2.2.2.2.2.2) rfl ⟨(Nat.le_of_ble_eq_true rfl), (Nat.le_of_ble_eq_true rfl)⟩ ⟨(Nat.le_of_ble_eq_true rfl), (Nat.le_of_ble_eq_true rfl)⟩ (Nat.le_of_ble_eq_true rfl) ?_
      have X := (X.act nx hn d).acts (nxt nx) (min (kp + 1) 24)
      refine j_aload_n dX5_hedge_43 rfl rfl ?_
      refine j_getf dX5_hedge_44 5 4 rfl (Nat.le_of_ble_eq_true rfl) fl_X5_26 in_5 (by first | exact X.1 | exact X.2.1 | exact X.2.2.2.1 | exact X.2.2.2.2.1 | exact X.2.2.2.2.2.2.1.o | exact X.2.2.2.2.2.2.1.c | exact X.2.2.2.2.2.2.1.i | exact X.2.2.2.2.2.2.1.p | exact X.2.2.2.2.2.2.1.d | exact X.2.2.2.2.2.2.2.1.o | exact X.2.2.2.2.2.2.2.2.1 | exact X.2.2.2.2.2.2.2.2.2.1 | exact X.2.2.2.2.2.2.2.2.2.2.2.1 | exact X.2.2.2.2.2.2.2.2.2.2.2.2.2.1 | exact X.2.2.2.2.2.2.2.2.2.2.2.2.2.2.1 | exact X.2.2.2.2.2.2.2.2.2.2.2.2.2.2.2) rfl ?_
      refine j_aload_n dX5_hedge_47 rfl rfl ?_
      refine j_getf dX5_hedge_48 5 4 rfl (Nat.le_of_ble_eq_true rfl) fl_X5_26 in_5 (by first | exact X.1 | exact X.2.1 | exact X.2.2.2.1 | exact X.2.2.2.2.1 | exact X.2.2.2.2.2.2.1.o | exact X.2.2.2.2.2.2.1.c | exact X.2.2.2.2.2.2.1.i | exact X.2.2.2.2.2.2.1.p | exact X.2.2.2.2.2.2.1.d | exact X.2.2.2.2.2.2.2.1.o | exact X.2.2.2.2.2.2.2.2.1 | exact X.2.2.2.2.2.2.2.2.2.1 | exact X.2.2.2.2.2.2.2.2.2.2.2.1 | exact X.2.2.2.2.2.2.2.2.2.2.2.2.2.1 | exact X.2.2.2.2.2.2.2.2.2.2.2.2.2.2.1 | exact X.2.2.2.2.2.2.2.2.2.2.2.2.2.2.2) rfl ?_
      refine j_getf dX5_hedge_51 4 8 rfl (Nat.le_of_ble_eq_true rfl) fl_X5_164 in_4 (by first | exact X.1 | exact X.2.1 | exact X.2.2.2.1 | exact X.2.2.2.2.1 | exact X.2.2.2.2.2.2.1.o | exact X.2.2.2.2.2.2.1.c | exact X.2.2.2.2.2.2.1.i | exact X.2.2.2.2.2.2.1.p | exact X.2.2.2.2.2.2.1.d | exact X.2.2.2.2.2.2.2.1.o | exact X.2.2.2.2.2.2.2.2.1 | exact X.2.2.2.2.2.2.2.2.2.1 | exact X.2.2.2.2.2.2.2.2.2.2.2.1 | exact X.2.2.2.2.2.2.2.2.2.2.2.2.2.1 | exact X.2.2.2.2.2.2.2.2.2.2.2.2.2.2.1 | exact X.2.2.2.2.2.2.2.2.2.2.2.2.2.2.2) rfl ?_
      refine j_iconst (nI 1) dX5_hedge_54 rfl ?_
      refine j_iload_n dX5_hedge_55 rfl rfl ?_
      refine j_ishl dX5_hedge_56 ?_
      refine j_iconst (-1) dX5_hedge_57 rfl ?_
      refine j_ixor dX5_hedge_58 ?_
      refine j_iand dX5_hedge_59 ?_
      refine j_iload_n dX5_hedge_60 rfl rfl ?_
      refine j_iload_n dX5_hedge_61 rfl rfl ?_
      refine j_ishl dX5_hedge_62 ?_
      refine j_ior dX5_hedge_63 ?_
      refine j_putf dX5_hedge_64 4 8 rfl (Nat.le_of_ble_eq_true rfl) fl_X5_164 in_4 tyX4 tyX4_ok nmX4 rfl rfl (by first | exact X.1 | exact X.2.1 | exact X.2.2.2.1 | exact X.2.2.2.2.1 | exact X.2.2.2.2.2.2.1.o | exact X.2.2.2.2.2.2.1.c | exact X.2.2.2.2.2.2.1.i | exact X.2.2.2.2.2.2.1.p | exact X.2.2.2.2.2.2.1.d | exact X.2.2.2.2.2.2.2.1.o | exact X.2.2.2.2.2.2.2.2.1 | exact X.2.2.2.2.2.2.2.2.2.1 | exact X.2.2.2.2.2.2.2.2.2.2.2.1 | exact X.2.2.2.2.2.2.2.2.2.2.2.2.2.1 | exact X.2.2.2.2.2.2.2.2.2.2.2.2.2.2.1 | exact X.2.2.2.2.2.2.2.2.2.2.2.2.2.2.2) (Nat.le_of_ble_eq_true rfl) _ (by exact X.2.2.2.2.2.2.1.setH) ?_
      refine j_iload_n dX5_hedge_67 rfl rfl ?_
      exact j_iret rfl dX5_hedge_68 rfl rfl (Nat.le_of_ble_eq_true rfl) (Nat.le_of_ble_eq_true rfl)
    · exact absurd h2 b14
theorem x_quarter_state (X : XR σ lf fd rl rn ri tp rd dd d df nx kp da di tr bo ne) (s : Int32) (h : sN d = 0) : Ct G yX5_quarter cX5_quarter 2 (some .int) 6 0 0 z σ [.ref 0, .int s] (some (.int (-1000002))) z σ := by
  refine Ct.ofJ RX5 rfl [some (.ref 0), some (.int s)] rfl (by decide) Nat.le.refl ?_
  refine j_aload_n dX5_quarter_0 rfl rfl ?_
  refine j_callV (c_isNoTown X) dX5_quarter_1 rfl mv_X5_170 (by first | exact X.1 | exact X.2.1 | exact X.2.2.2.1 | exact X.2.2.2.2.1 | exact X.2.2.2.2.2.2.1.o | exact X.2.2.2.2.2.2.1.c | exact X.2.2.2.2.2.2.1.i | exact X.2.2.2.2.2.2.1.p | exact X.2.2.2.2.2.2.1.d | exact X.2.2.2.2.2.2.2.1.o | exact X.2.2.2.2.2.2.2.2.1 | exact X.2.2.2.2.2.2.2.2.2.1 | exact X.2.2.2.2.2.2.2.2.2.2.2.1 | exact X.2.2.2.2.2.2.2.2.2.2.2.2.2.1 | exact X.2.2.2.2.2.2.2.2.2.2.2.2.2.2.1 | exact X.2.2.2.2.2.2.2.2.2.2.2.2.2.2.2) rfl ⟨(Nat.le_of_ble_eq_true rfl), (Nat.le_of_ble_eq_true rfl)⟩ ⟨(Nat.le_of_ble_eq_true rfl), (Nat.le_of_ble_eq_true rfl)⟩ (Nat.le_of_ble_eq_true rfl) ?_
  refine j_top (nI 1) (by rw [h]; rfl) ?_
  refine j_if_eq 10 dX5_quarter_4 (by decide) (fun h => absurd h (by decide)) (fun _ => ?_)
  refine j_ldc (-1000002) dX5_quarter_7 kc_X5_140 ?_
  exact j_iret rfl dX5_quarter_9 rfl rfl (Nat.le_of_ble_eq_true rfl) (Nat.le_of_ble_eq_true rfl)
theorem x_quarter_bad (X : XR σ lf fd rl rn ri tp rd dd d df nx kp da di tr bo ne) (s : Int32) (hN : sN d ≤ 7) (h0 : 1 ≤ sN d) (h : s < 0 ∨ 999999 < s) : Ct G yX5_quarter cX5_quarter 2 (some .int) 6 0 0 z σ [.ref 0, .int s] (some (.int (-1000001))) z σ := by
  refine Ct.ofJ RX5 rfl [some (.ref 0), some (.int s)] rfl (by decide) Nat.le.refl ?_
  refine j_aload_n dX5_quarter_0 rfl rfl ?_
  refine j_callV (c_isNoTown X) dX5_quarter_1 rfl mv_X5_170 (by first | exact X.1 | exact X.2.1 | exact X.2.2.2.1 | exact X.2.2.2.2.1 | exact X.2.2.2.2.2.2.1.o | exact X.2.2.2.2.2.2.1.c | exact X.2.2.2.2.2.2.1.i | exact X.2.2.2.2.2.2.1.p | exact X.2.2.2.2.2.2.1.d | exact X.2.2.2.2.2.2.2.1.o | exact X.2.2.2.2.2.2.2.2.1 | exact X.2.2.2.2.2.2.2.2.2.1 | exact X.2.2.2.2.2.2.2.2.2.2.2.1 | exact X.2.2.2.2.2.2.2.2.2.2.2.2.2.1 | exact X.2.2.2.2.2.2.2.2.2.2.2.2.2.2.1 | exact X.2.2.2.2.2.2.2.2.2.2.2.2.2.2.2) rfl ⟨(Nat.le_of_ble_eq_true rfl), (Nat.le_of_ble_eq_true rfl)⟩ ⟨(Nat.le_of_ble_eq_true rfl), (Nat.le_of_ble_eq_true rfl)⟩ (Nat.le_of_ble_eq_true rfl) ?_
  refine j_top (nI 0) (ntI_k h0 hN) ?_
  refine j_if_eq 10 dX5_quarter_4 (by decide) (fun _ => ?_) (fun h => absurd rfl h)
  refine j_iload_n dX5_quarter_10 rfl rfl ?_
  refine j_if_lt 20 dX5_quarter_11 (by decide) (fun b11 => ?_) (fun b11 => ?_)
  · refine j_ldc (-1000001) dX5_quarter_20 kc_X5_59 ?_
    exact j_iret rfl dX5_quarter_22 rfl rfl (Nat.le_of_ble_eq_true rfl) (Nat.le_of_ble_eq_true rfl)
  · refine j_iload_n dX5_quarter_14 rfl rfl ?_
    refine j_ldc (999999) dX5_quarter_15 kc_X5_173 ?_
    refine j_icmp_le 23 dX5_quarter_17 (by decide) (fun b17 => ?_) (fun b17 => ?_)
    · exfalso
      rcases h with h | h
      · exact b11 h
      · exact absurd b17 (Int32.not_le.mpr h)
    · refine j_ldc (-1000001) dX5_quarter_20 kc_X5_59 ?_
      exact j_iret rfl dX5_quarter_22 rfl rfl (Nat.le_of_ble_eq_true rfl) (Nat.le_of_ble_eq_true rfl)
theorem x_quarter_full (X : XR σ lf fd rl rn ri tp rd dd d df nx kp da di tr bo ne) (s : Int32) (hN : sN d ≤ 7) (h0 : 1 ≤ sN d) (h1 : ¬ s < 0) (h2 : s ≤ 999999) (hq : sQ d < 100000) (h : 999 ≤ sQ d) : Ct G yX5_quarter cX5_quarter 2 (some .int) 6 0 0 z σ [.ref 0, .int s] (some (.int (-1000003))) z σ := by
  refine Ct.ofJ RX5 rfl [some (.ref 0), some (.int s)] rfl (by decide) Nat.le.refl ?_
  refine j_aload_n dX5_quarter_0 rfl rfl ?_
  refine j_callV (c_isNoTown X) dX5_quarter_1 rfl mv_X5_170 (by first | exact X.1 | exact X.2.1 | exact X.2.2.2.1 | exact X.2.2.2.2.1 | exact X.2.2.2.2.2.2.1.o | exact X.2.2.2.2.2.2.1.c | exact X.2.2.2.2.2.2.1.i | exact X.2.2.2.2.2.2.1.p | exact X.2.2.2.2.2.2.1.d | exact X.2.2.2.2.2.2.2.1.o | exact X.2.2.2.2.2.2.2.2.1 | exact X.2.2.2.2.2.2.2.2.2.1 | exact X.2.2.2.2.2.2.2.2.2.2.2.1 | exact X.2.2.2.2.2.2.2.2.2.2.2.2.2.1 | exact X.2.2.2.2.2.2.2.2.2.2.2.2.2.2.1 | exact X.2.2.2.2.2.2.2.2.2.2.2.2.2.2.2) rfl ⟨(Nat.le_of_ble_eq_true rfl), (Nat.le_of_ble_eq_true rfl)⟩ ⟨(Nat.le_of_ble_eq_true rfl), (Nat.le_of_ble_eq_true rfl)⟩ (Nat.le_of_ble_eq_true rfl) ?_
  refine j_top (nI 0) (ntI_k h0 hN) ?_
  refine j_if_eq 10 dX5_quarter_4 (by decide) (fun _ => ?_) (fun h => absurd rfl h)
  refine j_iload_n dX5_quarter_10 rfl rfl ?_
  refine j_if_lt 20 dX5_quarter_11 (by decide) (fun b11 => ?_) (fun b11 => ?_)
  · exact absurd b11 h1
  · refine j_iload_n dX5_quarter_14 rfl rfl ?_
    refine j_ldc (999999) dX5_quarter_15 kc_X5_173 ?_
    refine j_icmp_le 23 dX5_quarter_17 (by decide) (fun b17 => ?_) (fun b17 => ?_)
    · refine j_aload_n dX5_quarter_23 rfl rfl ?_
      refine j_getf dX5_quarter_24 5 4 rfl (Nat.le_of_ble_eq_true rfl) fl_X5_26 in_5 (by first | exact X.1 | exact X.2.1 | exact X.2.2.2.1 | exact X.2.2.2.2.1 | exact X.2.2.2.2.2.2.1.o | exact X.2.2.2.2.2.2.1.c | exact X.2.2.2.2.2.2.1.i | exact X.2.2.2.2.2.2.1.p | exact X.2.2.2.2.2.2.1.d | exact X.2.2.2.2.2.2.2.1.o | exact X.2.2.2.2.2.2.2.2.1 | exact X.2.2.2.2.2.2.2.2.2.1 | exact X.2.2.2.2.2.2.2.2.2.2.2.1 | exact X.2.2.2.2.2.2.2.2.2.2.2.2.2.1 | exact X.2.2.2.2.2.2.2.2.2.2.2.2.2.2.1 | exact X.2.2.2.2.2.2.2.2.2.2.2.2.2.2.2) rfl ?_
      refine j_getf dX5_quarter_27 4 7 rfl (Nat.le_of_ble_eq_true rfl) fl_X5_174 in_4 (by first | exact X.1 | exact X.2.1 | exact X.2.2.2.1 | exact X.2.2.2.2.1 | exact X.2.2.2.2.2.2.1.o | exact X.2.2.2.2.2.2.1.c | exact X.2.2.2.2.2.2.1.i | exact X.2.2.2.2.2.2.1.p | exact X.2.2.2.2.2.2.1.d | exact X.2.2.2.2.2.2.2.1.o | exact X.2.2.2.2.2.2.2.2.1 | exact X.2.2.2.2.2.2.2.2.2.1 | exact X.2.2.2.2.2.2.2.2.2.2.2.1 | exact X.2.2.2.2.2.2.2.2.2.2.2.2.2.1 | exact X.2.2.2.2.2.2.2.2.2.2.2.2.2.2.1 | exact X.2.2.2.2.2.2.2.2.2.2.2.2.2.2.2) rfl ?_
      refine j_sipush (nI 999) dX5_quarter_30 rfl ?_
      refine j_icmp_ltN 39 dX5_quarter_33 (by decide) (by omega) (by omega) (fun b33 => ?_) (fun b33 => ?_)
      · exfalso; omega
      · refine j_ldc (-1000003) dX5_quarter_36 kc_X5_103 ?_
        exact j_iret rfl dX5_quarter_38 rfl rfl (Nat.le_of_ble_eq_true rfl) (Nat.le_of_ble_eq_true rfl)
    · exact absurd h2 b17
theorem x_quarter_ok (X : XR σ lf fd rl rn ri tp rd dd d df nx kp da di tr bo ne) (s : Int32) (hN : sN d ≤ 7) (h0 : 1 ≤ sN d) (h1 : ¬ s < 0) (h2 : s ≤ 999999) (h : sQ d < 999) (hn : nx < 24) (hkp : kp ≤ 24) (hinc : ∀ p, p < 7 → 0 ≤ sI d p ∧ ¬ (sI d p + nI 1).toInt64 = 0) : Ct G yX5_quarter cX5_quarter 2 (some .int) 6 0 0 z σ [.ref 0, .int s] (some (.int (nI (sQ d + 1)))) z (twS (kpH σ nx kp d) 25 ((qua (sN d) s (sI d) (sC d) (sD d) (nI (sU d)) (nI (sR d)) (sQ d) (sF d)).1, sI d, fil (-1) (sP d) (sN d), (qua (sN d) s (sI d) (sC d) (sD d) (nI (sU d)) (nI (sR d)) (sQ d) (sF d)).2.1, sN d, sU d, sR d, sQ d + 1, sH d, (qua (sN d) s (sI d) (sC d) (sD d) (nI (sU d)) (nI (sR d)) (sQ d) (sF d)).2.2)) := by
  refine Ct.ofJ RX5 rfl [some (.ref 0), some (.int s)] rfl (by decide) Nat.le.refl ?_
  refine j_aload_n dX5_quarter_0 rfl rfl ?_
  refine j_callV (c_isNoTown X) dX5_quarter_1 rfl mv_X5_170 (by first | exact X.1 | exact X.2.1 | exact X.2.2.2.1 | exact X.2.2.2.2.1 | exact X.2.2.2.2.2.2.1.o | exact X.2.2.2.2.2.2.1.c | exact X.2.2.2.2.2.2.1.i | exact X.2.2.2.2.2.2.1.p | exact X.2.2.2.2.2.2.1.d | exact X.2.2.2.2.2.2.2.1.o | exact X.2.2.2.2.2.2.2.2.1 | exact X.2.2.2.2.2.2.2.2.2.1 | exact X.2.2.2.2.2.2.2.2.2.2.2.1 | exact X.2.2.2.2.2.2.2.2.2.2.2.2.2.1 | exact X.2.2.2.2.2.2.2.2.2.2.2.2.2.2.1 | exact X.2.2.2.2.2.2.2.2.2.2.2.2.2.2.2) rfl ⟨(Nat.le_of_ble_eq_true rfl), (Nat.le_of_ble_eq_true rfl)⟩ ⟨(Nat.le_of_ble_eq_true rfl), (Nat.le_of_ble_eq_true rfl)⟩ (Nat.le_of_ble_eq_true rfl) ?_
  refine j_top (nI 0) (ntI_k h0 hN) ?_
  refine j_if_eq 10 dX5_quarter_4 (by decide) (fun _ => ?_) (fun h => absurd rfl h)
  refine j_iload_n dX5_quarter_10 rfl rfl ?_
  refine j_if_lt 20 dX5_quarter_11 (by decide) (fun b11 => ?_) (fun b11 => ?_)
  · exact absurd b11 h1
  · refine j_iload_n dX5_quarter_14 rfl rfl ?_
    refine j_ldc (999999) dX5_quarter_15 kc_X5_173 ?_
    refine j_icmp_le 23 dX5_quarter_17 (by decide) (fun b17 => ?_) (fun b17 => ?_)
    · refine j_aload_n dX5_quarter_23 rfl rfl ?_
      refine j_getf dX5_quarter_24 5 4 rfl (Nat.le_of_ble_eq_true rfl) fl_X5_26 in_5 (by first | exact X.1 | exact X.2.1 | exact X.2.2.2.1 | exact X.2.2.2.2.1 | exact X.2.2.2.2.2.2.1.o | exact X.2.2.2.2.2.2.1.c | exact X.2.2.2.2.2.2.1.i | exact X.2.2.2.2.2.2.1.p | exact X.2.2.2.2.2.2.1.d | exact X.2.2.2.2.2.2.2.1.o | exact X.2.2.2.2.2.2.2.2.1 | exact X.2.2.2.2.2.2.2.2.2.1 | exact X.2.2.2.2.2.2.2.2.2.2.2.1 | exact X.2.2.2.2.2.2.2.2.2.2.2.2.2.1 | exact X.2.2.2.2.2.2.2.2.2.2.2.2.2.2.1 | exact X.2.2.2.2.2.2.2.2.2.2.2.2.2.2.2) rfl ?_
      refine j_getf dX5_quarter_27 4 7 rfl (Nat.le_of_ble_eq_true rfl) fl_X5_174 in_4 (by first | exact X.1 | exact X.2.1 | exact X.2.2.2.1 | exact X.2.2.2.2.1 | exact X.2.2.2.2.2.2.1.o | exact X.2.2.2.2.2.2.1.c | exact X.2.2.2.2.2.2.1.i | exact X.2.2.2.2.2.2.1.p | exact X.2.2.2.2.2.2.1.d | exact X.2.2.2.2.2.2.2.1.o | exact X.2.2.2.2.2.2.2.2.1 | exact X.2.2.2.2.2.2.2.2.2.1 | exact X.2.2.2.2.2.2.2.2.2.2.2.1 | exact X.2.2.2.2.2.2.2.2.2.2.2.2.2.1 | exact X.2.2.2.2.2.2.2.2.2.2.2.2.2.2.1 | exact X.2.2.2.2.2.2.2.2.2.2.2.2.2.2.2) rfl ?_
      refine j_sipush (nI 999) dX5_quarter_30 rfl ?_
      refine j_icmp_ltN 39 dX5_quarter_33 (by decide) (by omega) (by omega) (fun b33 => ?_) (fun b33 => ?_)
      · refine j_aload_n dX5_quarter_39 rfl rfl ?_
        refine j_getf dX5_quarter_40 5 6 rfl (Nat.le_of_ble_eq_true rfl) fl_X5_36 in_5 (by first | exact X.1 | exact X.2.1 | exact X.2.2.2.1 | exact X.2.2.2.2.1 | exact X.2.2.2.2.2.2.1.o | exact X.2.2.2.2.2.2.1.c | exact X.2.2.2.2.2.2.1.i | exact X.2.2.2.2.2.2.1.p | exact X.2.2.2.2.2.2.1.d | exact X.2.2.2.2.2.2.2.1.o | exact X.2.2.2.2.2.2.2.2.1 | exact X.2.2.2.2.2.2.2.2.2.1 | exact X.2.2.2.2.2.2.2.2.2.2.2.1 | exact X.2.2.2.2.2.2.2.2.2.2.2.2.2.1 | exact X.2.2.2.2.2.2.2.2.2.2.2.2.2.2.1 | exact X.2.2.2.2.2.2.2.2.2.2.2.2.2.2.2) rfl ?_
        refine j_aload_n dX5_quarter_43 rfl rfl ?_
        refine j_getf dX5_quarter_44 5 4 rfl (Nat.le_of_ble_eq_true rfl) fl_X5_26 in_5 (by first | exact X.1 | exact X.2.1 | exact X.2.2.2.1 | exact X.2.2.2.2.1 | exact X.2.2.2.2.2.2.1.o | exact X.2.2.2.2.2.2.1.c | exact X.2.2.2.2.2.2.1.i | exact X.2.2.2.2.2.2.1.p | exact X.2.2.2.2.2.2.1.d | exact X.2.2.2.2.2.2.2.1.o | exact X.2.2.2.2.2.2.2.2.1 | exact X.2.2.2.2.2.2.2.2.2.1 | exact X.2.2.2.2.2.2.2.2.2.2.2.1 | exact X.2.2.2.2.2.2.2.2.2.2.2.2.2.1 | exact X.2.2.2.2.2.2.2.2.2.2.2.2.2.2.1 | exact X.2.2.2.2.2.2.2.2.2.2.2.2.2.2.2) rfl ?_
        refine j_callV (c_keep X hn hkp) dX5_quarter_47 rfl mv_X5_145 (by first | exact X.1 | exact X.2.1 | exact X.2.2.2.1 | exact X.2.2.2.2.1 | exact X.2.2.2.2.2.2.1.o | exact X.2.2.2.2.2.2.1.c | exact X.2.2.2.2.2.2.1.i | exact X.2.2.2.2.2.2.1.p | exact X.2.2.2.2.2.2.1.d | exact X.2.2.2.2.2.2.2.1.o | exact X.2.2.2.2.2.2.2.2.1 | exact X.2.2.2.2.2.2.2.2.2.1 | exact X.2.2.2.2.2.2.2.2.2.2.2.1 | exact X.2.2.2.2.2.2.2.2.2.2.2.2.2.1 | exact X.2.2.2.2.2.2.2.2.2.2.2.2.2.2.1 | exact X.2.2.2.2.2.2.2.2.2.2.2.2.2.2.2) rfl ⟨(Nat.le_of_ble_eq_true rfl), (Nat.le_of_ble_eq_true rfl)⟩ ⟨(Nat.le_of_ble_eq_true rfl), (Nat.le_of_ble_eq_true rfl)⟩ (Nat.le_of_ble_eq_true rfl) ?_
        have X := (X.act nx hn d).acts (nxt nx) (min (kp + 1) 24)
        refine j_aload_n dX5_quarter_50 rfl rfl ?_
        refine j_getf dX5_quarter_51 5 4 rfl (Nat.le_of_ble_eq_true rfl) fl_X5_26 in_5 (by first | exact X.1 | exact X.2.1 | exact X.2.2.2.1 | exact X.2.2.2.2.1 | exact X.2.2.2.2.2.2.1.o | exact X.2.2.2.2.2.2.1.c | exact X.2.2.2.2.2.2.1.i | exact X.2.2.2.2.2.2.1.p | exact X.2.2.2.2.2.2.1.d | exact X.2.2.2.2.2.2.2.1.o | exact X.2.2.2.2.2.2.2.2.1 | exact X.2.2.2.2.2.2.2.2.2.1 | exact X.2.2.2.2.2.2.2.2.2.2.2.1 | exact X.2.2.2.2.2.2.2.2.2.2.2.2.2.1 | exact X.2.2.2.2.2.2.2.2.2.2.2.2.2.2.1 | exact X.2.2.2.2.2.2.2.2.2.2.2.2.2.2.2) rfl ?_
        refine j_iload_n dX5_quarter_54 rfl rfl ?_
        refine j_callV (c_passQuarterS X.2.2.2.2.2.2.1 s hN hinc) dX5_quarter_55 rfl mv_X5_177 (by first | exact X.1 | exact X.2.1 | exact X.2.2.2.1 | exact X.2.2.2.2.1 | exact X.2.2.2.2.2.2.1.o | exact X.2.2.2.2.2.2.1.c | exact X.2.2.2.2.2.2.1.i | exact X.2.2.2.2.2.2.1.p | exact X.2.2.2.2.2.2.1.d | exact X.2.2.2.2.2.2.2.1.o | exact X.2.2.2.2.2.2.2.2.1 | exact X.2.2.2.2.2.2.2.2.2.1 | exact X.2.2.2.2.2.2.2.2.2.2.2.1 | exact X.2.2.2.2.2.2.2.2.2.2.2.2.2.1 | exact X.2.2.2.2.2.2.2.2.2.2.2.2.2.2.1 | exact X.2.2.2.2.2.2.2.2.2.2.2.2.2.2.2) rfl ⟨(Nat.le_of_ble_eq_true rfl), (Nat.le_of_ble_eq_true rfl)⟩ ⟨(Nat.le_of_ble_eq_true rfl), (Nat.le_of_ble_eq_true rfl)⟩ (Nat.le_of_ble_eq_true rfl) ?_
        have X := X.town ((qua (sN d) s (sI d) (sC d) (sD d) (nI (sU d)) (nI (sR d)) (sQ d) (sF d)).1, sI d, fil (-1) (sP d) (sN d), (qua (sN d) s (sI d) (sC d) (sD d) (nI (sU d)) (nI (sR d)) (sQ d) (sF d)).2.1, sN d, sU d, sR d, sQ d + 1, sH d, (qua (sN d) s (sI d) (sC d) (sD d) (nI (sU d)) (nI (sR d)) (sQ d) (sF d)).2.2)
        refine j_aload_n dX5_quarter_58 rfl rfl ?_
        refine j_getf dX5_quarter_59 5 4 rfl (Nat.le_of_ble_eq_true rfl) fl_X5_26 in_5 (by first | exact X.1 | exact X.2.1 | exact X.2.2.2.1 | exact X.2.2.2.2.1 | exact X.2.2.2.2.2.2.1.o | exact X.2.2.2.2.2.2.1.c | exact X.2.2.2.2.2.2.1.i | exact X.2.2.2.2.2.2.1.p | exact X.2.2.2.2.2.2.1.d | exact X.2.2.2.2.2.2.2.1.o | exact X.2.2.2.2.2.2.2.2.1 | exact X.2.2.2.2.2.2.2.2.2.1 | exact X.2.2.2.2.2.2.2.2.2.2.2.1 | exact X.2.2.2.2.2.2.2.2.2.2.2.2.2.1 | exact X.2.2.2.2.2.2.2.2.2.2.2.2.2.2.1 | exact X.2.2.2.2.2.2.2.2.2.2.2.2.2.2.2) rfl ?_
        refine j_getf dX5_quarter_62 4 7 rfl (Nat.le_of_ble_eq_true rfl) fl_X5_174 in_4 (by first | exact X.1 | exact X.2.1 | exact X.2.2.2.1 | exact X.2.2.2.2.1 | exact X.2.2.2.2.2.2.1.o | exact X.2.2.2.2.2.2.1.c | exact X.2.2.2.2.2.2.1.i | exact X.2.2.2.2.2.2.1.p | exact X.2.2.2.2.2.2.1.d | exact X.2.2.2.2.2.2.2.1.o | exact X.2.2.2.2.2.2.2.2.1 | exact X.2.2.2.2.2.2.2.2.2.1 | exact X.2.2.2.2.2.2.2.2.2.2.2.1 | exact X.2.2.2.2.2.2.2.2.2.2.2.2.2.1 | exact X.2.2.2.2.2.2.2.2.2.2.2.2.2.2.1 | exact X.2.2.2.2.2.2.2.2.2.2.2.2.2.2.2) rfl ?_
        exact j_iret rfl dX5_quarter_65 rfl rfl (Nat.le_of_ble_eq_true rfl) (Nat.le_of_ble_eq_true rfl)
      · exfalso; omega
    · exact absurd h2 b17
theorem x_undo_state (X : XR σ lf fd rl rn ri tp rd dd d df nx kp da di tr bo ne) (h : kp = 0) : Ct G yX5_undo cX5_undo 1 (some .int) 4 0 0 z σ [.ref 0] (some (.int (-1000002))) z σ := by
  refine Ct.ofJ RX5 rfl [some (.ref 0)] rfl (by decide) Nat.le.refl ?_
  subst h
  refine j_aload_n dX5_undo_0 rfl rfl ?_
  refine j_getf dX5_undo_1 5 6 rfl (Nat.le_of_ble_eq_true rfl) fl_X5_36 in_5 (by first | exact X.1 | exact X.2.1 | exact X.2.2.2.1 | exact X.2.2.2.2.1 | exact X.2.2.2.2.2.2.1.o | exact X.2.2.2.2.2.2.1.c | exact X.2.2.2.2.2.2.1.i | exact X.2.2.2.2.2.2.1.p | exact X.2.2.2.2.2.2.1.d | exact X.2.2.2.2.2.2.2.1.o | exact X.2.2.2.2.2.2.2.2.1 | exact X.2.2.2.2.2.2.2.2.2.1 | exact X.2.2.2.2.2.2.2.2.2.2.2.1 | exact X.2.2.2.2.2.2.2.2.2.2.2.2.2.1 | exact X.2.2.2.2.2.2.2.2.2.2.2.2.2.2.1 | exact X.2.2.2.2.2.2.2.2.2.2.2.2.2.2.2) rfl ?_
  refine j_getf dX5_undo_4 0 2 rfl (Nat.le_of_ble_eq_true rfl) fl_X5_181 in_0 (by first | exact X.1 | exact X.2.1 | exact X.2.2.2.1 | exact X.2.2.2.2.1 | exact X.2.2.2.2.2.2.1.o | exact X.2.2.2.2.2.2.1.c | exact X.2.2.2.2.2.2.1.i | exact X.2.2.2.2.2.2.1.p | exact X.2.2.2.2.2.2.1.d | exact X.2.2.2.2.2.2.2.1.o | exact X.2.2.2.2.2.2.2.2.1 | exact X.2.2.2.2.2.2.2.2.2.1 | exact X.2.2.2.2.2.2.2.2.2.2.2.1 | exact X.2.2.2.2.2.2.2.2.2.2.2.2.2.1 | exact X.2.2.2.2.2.2.2.2.2.2.2.2.2.2.1 | exact X.2.2.2.2.2.2.2.2.2.2.2.2.2.2.2) rfl ?_
  refine j_if_ne 13 dX5_undo_7 (by decide) (fun b7 => ?_) (fun b7 => ?_)
  · exact absurd rfl b7
  · refine j_ldc (-1000002) dX5_undo_10 kc_X5_140 ?_
    exact j_iret rfl dX5_undo_12 rfl rfl (Nat.le_of_ble_eq_true rfl) (Nat.le_of_ble_eq_true rfl)
theorem x_undo_ok (X : XR σ lf fd rl rn ri tp rd dd d df nx kp da di tr bo ne) (h : 1 ≤ kp) (hn : nx < 24) (hkp : kp ≤ 24) : Ct G yX5_undo cX5_undo 1 (some .int) 4 0 0 z σ [.ref 0] (some (.int (nI (kp - 1)))) z (twS (ups σ 35 (xA (prv nx) (kp - 1))) 25 (da (prv nx))) := by
  refine Ct.ofJ RX5 rfl [some (.ref 0)] rfl (by decide) Nat.le.refl ?_
  refine j_aload_n dX5_undo_0 rfl rfl ?_
  refine j_getf dX5_undo_1 5 6 rfl (Nat.le_of_ble_eq_true rfl) fl_X5_36 in_5 (by first | exact X.1 | exact X.2.1 | exact X.2.2.2.1 | exact X.2.2.2.2.1 | exact X.2.2.2.2.2.2.1.o | exact X.2.2.2.2.2.2.1.c | exact X.2.2.2.2.2.2.1.i | exact X.2.2.2.2.2.2.1.p | exact X.2.2.2.2.2.2.1.d | exact X.2.2.2.2.2.2.2.1.o | exact X.2.2.2.2.2.2.2.2.1 | exact X.2.2.2.2.2.2.2.2.2.1 | exact X.2.2.2.2.2.2.2.2.2.2.2.1 | exact X.2.2.2.2.2.2.2.2.2.2.2.2.2.1 | exact X.2.2.2.2.2.2.2.2.2.2.2.2.2.2.1 | exact X.2.2.2.2.2.2.2.2.2.2.2.2.2.2.2) rfl ?_
  refine j_getf dX5_undo_4 0 2 rfl (Nat.le_of_ble_eq_true rfl) fl_X5_181 in_0 (by first | exact X.1 | exact X.2.1 | exact X.2.2.2.1 | exact X.2.2.2.2.1 | exact X.2.2.2.2.2.2.1.o | exact X.2.2.2.2.2.2.1.c | exact X.2.2.2.2.2.2.1.i | exact X.2.2.2.2.2.2.1.p | exact X.2.2.2.2.2.2.1.d | exact X.2.2.2.2.2.2.2.1.o | exact X.2.2.2.2.2.2.2.2.1 | exact X.2.2.2.2.2.2.2.2.2.1 | exact X.2.2.2.2.2.2.2.2.2.2.2.1 | exact X.2.2.2.2.2.2.2.2.2.2.2.2.2.1 | exact X.2.2.2.2.2.2.2.2.2.2.2.2.2.2.1 | exact X.2.2.2.2.2.2.2.2.2.2.2.2.2.2.2) rfl ?_
  refine j_if_ne 13 dX5_undo_7 (by decide) (fun b7 => ?_) (fun b7 => ?_)
  · refine j_aload_n dX5_undo_13 rfl rfl ?_
    refine j_getf dX5_undo_14 5 6 rfl (Nat.le_of_ble_eq_true rfl) fl_X5_36 in_5 (by first | exact X.1 | exact X.2.1 | exact X.2.2.2.1 | exact X.2.2.2.2.1 | exact X.2.2.2.2.2.2.1.o | exact X.2.2.2.2.2.2.1.c | exact X.2.2.2.2.2.2.1.i | exact X.2.2.2.2.2.2.1.p | exact X.2.2.2.2.2.2.1.d | exact X.2.2.2.2.2.2.2.1.o | exact X.2.2.2.2.2.2.2.2.1 | exact X.2.2.2.2.2.2.2.2.2.1 | exact X.2.2.2.2.2.2.2.2.2.2.2.1 | exact X.2.2.2.2.2.2.2.2.2.2.2.2.2.1 | exact X.2.2.2.2.2.2.2.2.2.2.2.2.2.2.1 | exact X.2.2.2.2.2.2.2.2.2.2.2.2.2.2.2) rfl ?_
    refine j_aload_n dX5_undo_17 rfl rfl ?_
    refine j_getf dX5_undo_18 5 4 rfl (Nat.le_of_ble_eq_true rfl) fl_X5_26 in_5 (by first | exact X.1 | exact X.2.1 | exact X.2.2.2.1 | exact X.2.2.2.2.1 | exact X.2.2.2.2.2.2.1.o | exact X.2.2.2.2.2.2.1.c | exact X.2.2.2.2.2.2.1.i | exact X.2.2.2.2.2.2.1.p | exact X.2.2.2.2.2.2.1.d | exact X.2.2.2.2.2.2.2.1.o | exact X.2.2.2.2.2.2.2.2.1 | exact X.2.2.2.2.2.2.2.2.2.1 | exact X.2.2.2.2.2.2.2.2.2.2.2.1 | exact X.2.2.2.2.2.2.2.2.2.2.2.2.2.1 | exact X.2.2.2.2.2.2.2.2.2.2.2.2.2.2.1 | exact X.2.2.2.2.2.2.2.2.2.2.2.2.2.2.2) rfl ?_
    refine j_callV (c_takeBack X hn hkp h) dX5_undo_21 rfl mv_X5_184 (by first | exact X.1 | exact X.2.1 | exact X.2.2.2.1 | exact X.2.2.2.2.1 | exact X.2.2.2.2.2.2.1.o | exact X.2.2.2.2.2.2.1.c | exact X.2.2.2.2.2.2.1.i | exact X.2.2.2.2.2.2.1.p | exact X.2.2.2.2.2.2.1.d | exact X.2.2.2.2.2.2.2.1.o | exact X.2.2.2.2.2.2.2.2.1 | exact X.2.2.2.2.2.2.2.2.2.1 | exact X.2.2.2.2.2.2.2.2.2.2.2.1 | exact X.2.2.2.2.2.2.2.2.2.2.2.2.2.1 | exact X.2.2.2.2.2.2.2.2.2.2.2.2.2.2.1 | exact X.2.2.2.2.2.2.2.2.2.2.2.2.2.2.2) rfl ⟨(Nat.le_of_ble_eq_true rfl), (Nat.le_of_ble_eq_true rfl)⟩ ⟨(Nat.le_of_ble_eq_true rfl), (Nat.le_of_ble_eq_true rfl)⟩ (Nat.le_of_ble_eq_true rfl) ?_
    have X := (X.acts (prv nx) (kp - 1)).town (da (prv nx))
    refine j_aload_n dX5_undo_24 rfl rfl ?_
    refine j_getf dX5_undo_25 5 6 rfl (Nat.le_of_ble_eq_true rfl) fl_X5_36 in_5 (by first | exact X.1 | exact X.2.1 | exact X.2.2.2.1 | exact X.2.2.2.2.1 | exact X.2.2.2.2.2.2.1.o | exact X.2.2.2.2.2.2.1.c | exact X.2.2.2.2.2.2.1.i | exact X.2.2.2.2.2.2.1.p | exact X.2.2.2.2.2.2.1.d | exact X.2.2.2.2.2.2.2.1.o | exact X.2.2.2.2.2.2.2.2.1 | exact X.2.2.2.2.2.2.2.2.2.1 | exact X.2.2.2.2.2.2.2.2.2.2.2.1 | exact X.2.2.2.2.2.2.2.2.2.2.2.2.2.1 | exact X.2.2.2.2.2.2.2.2.2.2.2.2.2.2.1 | exact X.2.2.2.2.2.2.2.2.2.2.2.2.2.2.2) rfl ?_
    refine j_getf dX5_undo_28 0 2 rfl (Nat.le_of_ble_eq_true rfl) fl_X5_181 in_0 (by first | exact X.1 | exact X.2.1 | exact X.2.2.2.1 | exact X.2.2.2.2.1 | exact X.2.2.2.2.2.2.1.o | exact X.2.2.2.2.2.2.1.c | exact X.2.2.2.2.2.2.1.i | exact X.2.2.2.2.2.2.1.p | exact X.2.2.2.2.2.2.1.d | exact X.2.2.2.2.2.2.2.1.o | exact X.2.2.2.2.2.2.2.2.1 | exact X.2.2.2.2.2.2.2.2.2.1 | exact X.2.2.2.2.2.2.2.2.2.2.2.1 | exact X.2.2.2.2.2.2.2.2.2.2.2.2.2.1 | exact X.2.2.2.2.2.2.2.2.2.2.2.2.2.2.1 | exact X.2.2.2.2.2.2.2.2.2.2.2.2.2.2.2) rfl ?_
    exact j_iret rfl dX5_undo_31 rfl rfl (Nat.le_of_ble_eq_true rfl) (Nat.le_of_ble_eq_true rfl)
  · exact absurd b7 (nI_ne0 h (by omega))
theorem x_person_bad (X : XR σ lf fd rl rn ri tp rd dd d df nx kp da di tr bo ne) (p w : Int32) (h : ¬ npI p (sN d) = 0) : Ct G yX5_person cX5_person 3 (some .int) 5 0 0 z σ [.ref 0, .int p, .int w] (some (.int (-1000001))) z σ := by
  refine Ct.ofJ RX5 rfl [some (.ref 0), some (.int p), some (.int w)] rfl (by decide) Nat.le.refl ?_
  refine j_aload_n dX5_person_0 rfl rfl ?_
  refine j_iload_n dX5_person_1 rfl rfl ?_
  refine j_callV (c_isNoPerson X p) dX5_person_2 rfl mv_X5_155 (by first | exact X.1 | exact X.2.1 | exact X.2.2.2.1 | exact X.2.2.2.2.1 | exact X.2.2.2.2.2.2.1.o | exact X.2.2.2.2.2.2.1.c | exact X.2.2.2.2.2.2.1.i | exact X.2.2.2.2.2.2.1.p | exact X.2.2.2.2.2.2.1.d | exact X.2.2.2.2.2.2.2.1.o | exact X.2.2.2.2.2.2.2.2.1 | exact X.2.2.2.2.2.2.2.2.2.1 | exact X.2.2.2.2.2.2.2.2.2.2.2.1 | exact X.2.2.2.2.2.2.2.2.2.2.2.2.2.1 | exact X.2.2.2.2.2.2.2.2.2.2.2.2.2.2.1 | exact X.2.2.2.2.2.2.2.2.2.2.2.2.2.2.2) rfl ⟨(Nat.le_of_ble_eq_true rfl), (Nat.le_of_ble_eq_true rfl)⟩ ⟨(Nat.le_of_ble_eq_true rfl), (Nat.le_of_ble_eq_true rfl)⟩ (Nat.le_of_ble_eq_true rfl) ?_
  refine j_if_eq 11 dX5_person_5 (by decide) (fun b5 => ?_) (fun b5 => ?_)
  · exact absurd b5 h
  · refine j_ldc (-1000001) dX5_person_8 kc_X5_59 ?_
    exact j_iret rfl dX5_person_10 rfl rfl (Nat.le_of_ble_eq_true rfl) (Nat.le_of_ble_eq_true rfl)
theorem x_person_debt (X : XR σ lf fd rl rn ri tp rd dd d df nx kp da di tr bo ne) {p : Nat} (hN : sN d ≤ 7) (hp : p < sN d) {q : Nat} (hq : q < sN d) : Ct G yX5_person cX5_person 3 (some .int) 5 0 0 z σ [.ref 0, .int (nI p), .int (nI (10 + q))] (some (.int (sD d (p * 7 + q)))) z σ := by
  refine Ct.ofJ RX5 rfl [some (.ref 0), some (.int (nI p)), some (.int (nI (10 + q)))] rfl (by decide) Nat.le.refl ?_
  refine j_aload_n dX5_person_0 rfl rfl ?_
  refine j_iload_n dX5_person_1 rfl rfl ?_
  refine j_callV (c_isNoPerson X (nI p)) dX5_person_2 rfl mv_X5_155 (by first | exact X.1 | exact X.2.1 | exact X.2.2.2.1 | exact X.2.2.2.2.1 | exact X.2.2.2.2.2.2.1.o | exact X.2.2.2.2.2.2.1.c | exact X.2.2.2.2.2.2.1.i | exact X.2.2.2.2.2.2.1.p | exact X.2.2.2.2.2.2.1.d | exact X.2.2.2.2.2.2.2.1.o | exact X.2.2.2.2.2.2.2.2.1 | exact X.2.2.2.2.2.2.2.2.2.1 | exact X.2.2.2.2.2.2.2.2.2.2.2.1 | exact X.2.2.2.2.2.2.2.2.2.2.2.2.2.1 | exact X.2.2.2.2.2.2.2.2.2.2.2.2.2.2.1 | exact X.2.2.2.2.2.2.2.2.2.2.2.2.2.2.2) rfl ⟨(Nat.le_of_ble_eq_true rfl), (Nat.le_of_ble_eq_true rfl)⟩ ⟨(Nat.le_of_ble_eq_true rfl), (Nat.le_of_ble_eq_true rfl)⟩ (Nat.le_of_ble_eq_true rfl) ?_
  refine j_top (nI 0) (npI_k hp hN) ?_
  refine j_if_eq 11 dX5_person_5 (by decide) (fun _ => ?_) (fun h => absurd rfl h)
  refine j_iload_n dX5_person_11 rfl rfl ?_
  refine j_bipush (nI 10) dX5_person_12 rfl ?_
  refine j_icmp_ltN 44 dX5_person_14 (by decide) (by omega) (by omega) (fun b14 => ?_) (fun b14 => ?_)
  · exfalso; omega
  · refine j_iload_n dX5_person_17 rfl rfl ?_
    refine j_bipush (nI 10) dX5_person_18 rfl ?_
    refine j_aload_n dX5_person_20 rfl rfl ?_
    refine j_getf dX5_person_21 5 4 rfl (Nat.le_of_ble_eq_true rfl) fl_X5_26 in_5 (by first | exact X.1 | exact X.2.1 | exact X.2.2.2.1 | exact X.2.2.2.2.1 | exact X.2.2.2.2.2.2.1.o | exact X.2.2.2.2.2.2.1.c | exact X.2.2.2.2.2.2.1.i | exact X.2.2.2.2.2.2.1.p | exact X.2.2.2.2.2.2.1.d | exact X.2.2.2.2.2.2.2.1.o | exact X.2.2.2.2.2.2.2.2.1 | exact X.2.2.2.2.2.2.2.2.2.1 | exact X.2.2.2.2.2.2.2.2.2.2.2.1 | exact X.2.2.2.2.2.2.2.2.2.2.2.2.2.1 | exact X.2.2.2.2.2.2.2.2.2.2.2.2.2.2.1 | exact X.2.2.2.2.2.2.2.2.2.2.2.2.2.2.2) rfl ?_
    refine j_getf dX5_person_24 4 4 rfl (Nat.le_of_ble_eq_true rfl) fl_X5_131 in_4 (by first | exact X.1 | exact X.2.1 | exact X.2.2.2.1 | exact X.2.2.2.2.1 | exact X.2.2.2.2.2.2.1.o | exact X.2.2.2.2.2.2.1.c | exact X.2.2.2.2.2.2.1.i | exact X.2.2.2.2.2.2.1.p | exact X.2.2.2.2.2.2.1.d | exact X.2.2.2.2.2.2.2.1.o | exact X.2.2.2.2.2.2.2.2.1 | exact X.2.2.2.2.2.2.2.2.2.1 | exact X.2.2.2.2.2.2.2.2.2.2.2.1 | exact X.2.2.2.2.2.2.2.2.2.2.2.2.2.1 | exact X.2.2.2.2.2.2.2.2.2.2.2.2.2.2.1 | exact X.2.2.2.2.2.2.2.2.2.2.2.2.2.2.2) rfl ?_
    first | refine j_iaddN dX5_person_27 ?_ | refine j_iadd dX5_person_27 ?_
    refine j_icmp_geN 44 dX5_person_28 (by decide) (by omega) (by omega) (fun b28 => ?_) (fun b28 => ?_)
    · exfalso; omega
    · refine j_aload_n dX5_person_31 rfl rfl ?_
      refine j_getf dX5_person_32 5 4 rfl (Nat.le_of_ble_eq_true rfl) fl_X5_26 in_5 (by first | exact X.1 | exact X.2.1 | exact X.2.2.2.1 | exact X.2.2.2.2.1 | exact X.2.2.2.2.2.2.1.o | exact X.2.2.2.2.2.2.1.c | exact X.2.2.2.2.2.2.1.i | exact X.2.2.2.2.2.2.1.p | exact X.2.2.2.2.2.2.1.d | exact X.2.2.2.2.2.2.2.1.o | exact X.2.2.2.2.2.2.2.2.1 | exact X.2.2.2.2.2.2.2.2.2.1 | exact X.2.2.2.2.2.2.2.2.2.2.2.1 | exact X.2.2.2.2.2.2.2.2.2.2.2.2.2.1 | exact X.2.2.2.2.2.2.2.2.2.2.2.2.2.2.1 | exact X.2.2.2.2.2.2.2.2.2.2.2.2.2.2.2) rfl ?_
      refine j_iload_n dX5_person_35 rfl rfl ?_
      refine j_iload_n dX5_person_36 rfl rfl ?_
      refine j_bipush (nI 10) dX5_person_37 rfl ?_
      refine j_isubN dX5_person_39 (by omega) ?_
      refine j_top (nI q) (by rw [Nat.add_sub_cancel_left]) ?_
      refine j_callV (c_debtOfS X.2.2.2.2.2.2.1 (by omega)) dX5_person_40 rfl mv_X5_141 (by first | exact X.1 | exact X.2.1 | exact X.2.2.2.1 | exact X.2.2.2.2.1 | exact X.2.2.2.2.2.2.1.o | exact X.2.2.2.2.2.2.1.c | exact X.2.2.2.2.2.2.1.i | exact X.2.2.2.2.2.2.1.p | exact X.2.2.2.2.2.2.1.d | exact X.2.2.2.2.2.2.2.1.o | exact X.2.2.2.2.2.2.2.2.1 | exact X.2.2.2.2.2.2.2.2.2.1 | exact X.2.2.2.2.2.2.2.2.2.2.2.1 | exact X.2.2.2.2.2.2.2.2.2.2.2.2.2.1 | exact X.2.2.2.2.2.2.2.2.2.2.2.2.2.2.1 | exact X.2.2.2.2.2.2.2.2.2.2.2.2.2.2.2) rfl ⟨(Nat.le_of_ble_eq_true rfl), (Nat.le_of_ble_eq_true rfl)⟩ ⟨(Nat.le_of_ble_eq_true rfl), (Nat.le_of_ble_eq_true rfl)⟩ (Nat.le_of_ble_eq_true rfl) ?_
      exact j_iret rfl dX5_person_43 rfl rfl (Nat.le_of_ble_eq_true rfl) (Nat.le_of_ble_eq_true rfl)
theorem x_person_else (X : XR σ lf fd rl rn ri tp rd dd d df nx kp da di tr bo ne) {p : Nat} (hN : sN d ≤ 7) (hp : p < sN d) (w : Int32) (h1 : w < nI 10 ∨ nI (10 + sN d) ≤ w) (h2 : w.toInt < 0 ∨ 7 < w.toInt) : Ct G yX5_person cX5_person 3 (some .int) 5 0 0 z σ [.ref 0, .int (nI p), .int w] (some (.int (-1000001))) z σ := by
  refine Ct.ofJ RX5 rfl [some (.ref 0), some (.int (nI p)), some (.int w)] rfl (by decide) Nat.le.refl ?_
  refine j_aload_n dX5_person_0 rfl rfl ?_
  refine j_iload_n dX5_person_1 rfl rfl ?_
  refine j_callV (c_isNoPerson X (nI p)) dX5_person_2 rfl mv_X5_155 (by first | exact X.1 | exact X.2.1 | exact X.2.2.2.1 | exact X.2.2.2.2.1 | exact X.2.2.2.2.2.2.1.o | exact X.2.2.2.2.2.2.1.c | exact X.2.2.2.2.2.2.1.i | exact X.2.2.2.2.2.2.1.p | exact X.2.2.2.2.2.2.1.d | exact X.2.2.2.2.2.2.2.1.o | exact X.2.2.2.2.2.2.2.2.1 | exact X.2.2.2.2.2.2.2.2.2.1 | exact X.2.2.2.2.2.2.2.2.2.2.2.1 | exact X.2.2.2.2.2.2.2.2.2.2.2.2.2.1 | exact X.2.2.2.2.2.2.2.2.2.2.2.2.2.2.1 | exact X.2.2.2.2.2.2.2.2.2.2.2.2.2.2.2) rfl ⟨(Nat.le_of_ble_eq_true rfl), (Nat.le_of_ble_eq_true rfl)⟩ ⟨(Nat.le_of_ble_eq_true rfl), (Nat.le_of_ble_eq_true rfl)⟩ (Nat.le_of_ble_eq_true rfl) ?_
  refine j_top (nI 0) (npI_k hp hN) ?_
  refine j_if_eq 11 dX5_person_5 (by decide) (fun _ => ?_) (fun h => absurd rfl h)
  refine j_iload_n dX5_person_11 rfl rfl ?_
  refine j_bipush (nI 10) dX5_person_12 rfl ?_
  refine j_icmp_lt 44 dX5_person_14 (by decide) (fun b14 => ?_) (fun b14 => ?_)
  · refine j_iload_n dX5_person_44 rfl rfl ?_
    refine j_tabOut 181 dX5_person_45 h2 (by decide) ?_
    refine j_ldc (-1000001) dX5_person_181 kc_X5_59 ?_
    exact j_iret rfl dX5_person_183 rfl rfl (Nat.le_of_ble_eq_true rfl) (Nat.le_of_ble_eq_true rfl)
  · refine j_iload_n dX5_person_17 rfl rfl ?_
    refine j_bipush (nI 10) dX5_person_18 rfl ?_
    refine j_aload_n dX5_person_20 rfl rfl ?_
    refine j_getf dX5_person_21 5 4 rfl (Nat.le_of_ble_eq_true rfl) fl_X5_26 in_5 (by first | exact X.1 | exact X.2.1 | exact X.2.2.2.1 | exact X.2.2.2.2.1 | exact X.2.2.2.2.2.2.1.o | exact X.2.2.2.2.2.2.1.c | exact X.2.2.2.2.2.2.1.i | exact X.2.2.2.2.2.2.1.p | exact X.2.2.2.2.2.2.1.d | exact X.2.2.2.2.2.2.2.1.o | exact X.2.2.2.2.2.2.2.2.1 | exact X.2.2.2.2.2.2.2.2.2.1 | exact X.2.2.2.2.2.2.2.2.2.2.2.1 | exact X.2.2.2.2.2.2.2.2.2.2.2.2.2.1 | exact X.2.2.2.2.2.2.2.2.2.2.2.2.2.2.1 | exact X.2.2.2.2.2.2.2.2.2.2.2.2.2.2.2) rfl ?_
    refine j_getf dX5_person_24 4 4 rfl (Nat.le_of_ble_eq_true rfl) fl_X5_131 in_4 (by first | exact X.1 | exact X.2.1 | exact X.2.2.2.1 | exact X.2.2.2.2.1 | exact X.2.2.2.2.2.2.1.o | exact X.2.2.2.2.2.2.1.c | exact X.2.2.2.2.2.2.1.i | exact X.2.2.2.2.2.2.1.p | exact X.2.2.2.2.2.2.1.d | exact X.2.2.2.2.2.2.2.1.o | exact X.2.2.2.2.2.2.2.2.1 | exact X.2.2.2.2.2.2.2.2.2.1 | exact X.2.2.2.2.2.2.2.2.2.2.2.1 | exact X.2.2.2.2.2.2.2.2.2.2.2.2.2.1 | exact X.2.2.2.2.2.2.2.2.2.2.2.2.2.2.1 | exact X.2.2.2.2.2.2.2.2.2.2.2.2.2.2.2) rfl ?_
    first | refine j_iaddN dX5_person_27 ?_ | refine j_iadd dX5_person_27 ?_
    refine j_icmp_ge 44 dX5_person_28 (by decide) (fun b28 => ?_) (fun b28 => ?_)
    · refine j_iload_n dX5_person_44 rfl rfl ?_
      refine j_tabOut 181 dX5_person_45 h2 (by decide) ?_
      refine j_ldc (-1000001) dX5_person_181 kc_X5_59 ?_
      exact j_iret rfl dX5_person_183 rfl rfl (Nat.le_of_ble_eq_true rfl) (Nat.le_of_ble_eq_true rfl)
    · exact absurd h1 (fun q => q.elim b14 b28)
theorem x_person_0 (X : XR σ lf fd rl rn ri tp rd dd d df nx kp da di tr bo ne) {p : Nat} (hN : sN d ≤ 7) (hp : p < sN d) : Ct G yX5_person cX5_person 3 (some .int) 5 0 0 z σ [.ref 0, .int (nI p), .int (nI 0)] (some (.int (sC d p))) z σ := by
  refine Ct.ofJ RX5 rfl [some (.ref 0), some (.int (nI p)), some (.int (nI 0))] rfl (by decide) Nat.le.refl ?_
  refine j_aload_n dX5_person_0 rfl rfl ?_
  refine j_iload_n dX5_person_1 rfl rfl ?_
  refine j_callV (c_isNoPerson X (nI p)) dX5_person_2 rfl mv_X5_155 (by first | exact X.1 | exact X.2.1 | exact X.2.2.2.1 | exact X.2.2.2.2.1 | exact X.2.2.2.2.2.2.1.o | exact X.2.2.2.2.2.2.1.c | exact X.2.2.2.2.2.2.1.i | exact X.2.2.2.2.2.2.1.p | exact X.2.2.2.2.2.2.1.d | exact X.2.2.2.2.2.2.2.1.o | exact X.2.2.2.2.2.2.2.2.1 | exact X.2.2.2.2.2.2.2.2.2.1 | exact X.2.2.2.2.2.2.2.2.2.2.2.1 | exact X.2.2.2.2.2.2.2.2.2.2.2.2.2.1 | exact X.2.2.2.2.2.2.2.2.2.2.2.2.2.2.1 | exact X.2.2.2.2.2.2.2.2.2.2.2.2.2.2.2) rfl ⟨(Nat.le_of_ble_eq_true rfl), (Nat.le_of_ble_eq_true rfl)⟩ ⟨(Nat.le_of_ble_eq_true rfl), (Nat.le_of_ble_eq_true rfl)⟩ (Nat.le_of_ble_eq_true rfl) ?_
  refine j_top (nI 0) (npI_k hp hN) ?_
  refine j_if_eq 11 dX5_person_5 (by decide) (fun _ => ?_) (fun h => absurd rfl h)
  refine j_iload_n dX5_person_11 rfl rfl ?_
  refine j_bipush (nI 10) dX5_person_12 rfl ?_
  refine j_icmp_ltN 44 dX5_person_14 (by decide) (by omega) (by omega) (fun b14 => ?_) (fun b14 => ?_)
  · refine j_iload_n dX5_person_44 rfl rfl ?_
    refine j_tabK 0 92 dX5_person_45 rfl (by decide) (by decide) (by decide) rfl (by decide) ?_
    refine j_aload_n dX5_person_92 rfl rfl ?_
    refine j_getf dX5_person_93 5 4 rfl (Nat.le_of_ble_eq_true rfl) fl_X5_26 in_5 (by first | exact X.1 | exact X.2.1 | exact X.2.2.2.1 | exact X.2.2.2.2.1 | exact X.2.2.2.2.2.2.1.o | exact X.2.2.2.2.2.2.1.c | exact X.2.2.2.2.2.2.1.i | exact X.2.2.2.2.2.2.1.p | exact X.2.2.2.2.2.2.1.d | exact X.2.2.2.2.2.2.2.1.o | exact X.2.2.2.2.2.2.2.2.1 | exact X.2.2.2.2.2.2.2.2.2.1 | exact X.2.2.2.2.2.2.2.2.2.2.2.1 | exact X.2.2.2.2.2.2.2.2.2.2.2.2.2.1 | exact X.2.2.2.2.2.2.2.2.2.2.2.2.2.2.1 | exact X.2.2.2.2.2.2.2.2.2.2.2.2.2.2.2) rfl ?_
    refine j_getf dX5_person_96 4 0 rfl (Nat.le_of_ble_eq_true rfl) fl_X5_137 in_4 (by first | exact X.1 | exact X.2.1 | exact X.2.2.2.1 | exact X.2.2.2.2.1 | exact X.2.2.2.2.2.2.1.o | exact X.2.2.2.2.2.2.1.c | exact X.2.2.2.2.2.2.1.i | exact X.2.2.2.2.2.2.1.p | exact X.2.2.2.2.2.2.1.d | exact X.2.2.2.2.2.2.2.1.o | exact X.2.2.2.2.2.2.2.2.1 | exact X.2.2.2.2.2.2.2.2.2.1 | exact X.2.2.2.2.2.2.2.2.2.2.2.1 | exact X.2.2.2.2.2.2.2.2.2.2.2.2.2.1 | exact X.2.2.2.2.2.2.2.2.2.2.2.2.2.2.1 | exact X.2.2.2.2.2.2.2.2.2.2.2.2.2.2.2) rfl ?_
    refine j_iload_n dX5_person_99 rfl rfl ?_
    refine j_iald dX5_person_100 (by first | exact X.1 | exact X.2.1 | exact X.2.2.2.1 | exact X.2.2.2.2.1 | exact X.2.2.2.2.2.2.1.o | exact X.2.2.2.2.2.2.1.c | exact X.2.2.2.2.2.2.1.i | exact X.2.2.2.2.2.2.1.p | exact X.2.2.2.2.2.2.1.d | exact X.2.2.2.2.2.2.2.1.o | exact X.2.2.2.2.2.2.2.2.1 | exact X.2.2.2.2.2.2.2.2.2.1 | exact X.2.2.2.2.2.2.2.2.2.2.2.1 | exact X.2.2.2.2.2.2.2.2.2.2.2.2.2.1 | exact X.2.2.2.2.2.2.2.2.2.2.2.2.2.2.1 | exact X.2.2.2.2.2.2.2.2.2.2.2.2.2.2.2) rfl (by omega) (by decide) ?_
    exact j_iret rfl dX5_person_101 rfl rfl (Nat.le_of_ble_eq_true rfl) (Nat.le_of_ble_eq_true rfl)
  · exfalso; omega
theorem x_person_1 (X : XR σ lf fd rl rn ri tp rd dd d df nx kp da di tr bo ne) {p : Nat} (hN : sN d ≤ 7) (hp : p < sN d) : Ct G yX5_person cX5_person 3 (some .int) 5 0 0 z σ [.ref 0, .int (nI p), .int (nI 1)] (some (.int (sI d p))) z σ := by
  refine Ct.ofJ RX5 rfl [some (.ref 0), some (.int (nI p)), some (.int (nI 1))] rfl (by decide) Nat.le.refl ?_
  refine j_aload_n dX5_person_0 rfl rfl ?_
  refine j_iload_n dX5_person_1 rfl rfl ?_
  refine j_callV (c_isNoPerson X (nI p)) dX5_person_2 rfl mv_X5_155 (by first | exact X.1 | exact X.2.1 | exact X.2.2.2.1 | exact X.2.2.2.2.1 | exact X.2.2.2.2.2.2.1.o | exact X.2.2.2.2.2.2.1.c | exact X.2.2.2.2.2.2.1.i | exact X.2.2.2.2.2.2.1.p | exact X.2.2.2.2.2.2.1.d | exact X.2.2.2.2.2.2.2.1.o | exact X.2.2.2.2.2.2.2.2.1 | exact X.2.2.2.2.2.2.2.2.2.1 | exact X.2.2.2.2.2.2.2.2.2.2.2.1 | exact X.2.2.2.2.2.2.2.2.2.2.2.2.2.1 | exact X.2.2.2.2.2.2.2.2.2.2.2.2.2.2.1 | exact X.2.2.2.2.2.2.2.2.2.2.2.2.2.2.2) rfl ⟨(Nat.le_of_ble_eq_true rfl), (Nat.le_of_ble_eq_true rfl)⟩ ⟨(Nat.le_of_ble_eq_true rfl), (Nat.le_of_ble_eq_true rfl)⟩ (Nat.le_of_ble_eq_true rfl) ?_
  refine j_top (nI 0) (npI_k hp hN) ?_
  refine j_if_eq 11 dX5_person_5 (by decide) (fun _ => ?_) (fun h => absurd rfl h)
  refine j_iload_n dX5_person_11 rfl rfl ?_
  refine j_bipush (nI 10) dX5_person_12 rfl ?_
  refine j_icmp_ltN 44 dX5_person_14 (by decide) (by omega) (by omega) (fun b14 => ?_) (fun b14 => ?_)
  · refine j_iload_n dX5_person_44 rfl rfl ?_
    refine j_tabK 1 102 dX5_person_45 rfl (by decide) (by decide) (by decide) rfl (by decide) ?_
    refine j_aload_n dX5_person_102 rfl rfl ?_
    refine j_getf dX5_person_103 5 4 rfl (Nat.le_of_ble_eq_true rfl) fl_X5_26 in_5 (by first | exact X.1 | exact X.2.1 | exact X.2.2.2.1 | exact X.2.2.2.2.1 | exact X.2.2.2.2.2.2.1.o | exact X.2.2.2.2.2.2.1.c | exact X.2.2.2.2.2.2.1.i | exact X.2.2.2.2.2.2.1.p | exact X.2.2.2.2.2.2.1.d | exact X.2.2.2.2.2.2.2.1.o | exact X.2.2.2.2.2.2.2.2.1 | exact X.2.2.2.2.2.2.2.2.2.1 | exact X.2.2.2.2.2.2.2.2.2.2.2.1 | exact X.2.2.2.2.2.2.2.2.2.2.2.2.2.1 | exact X.2.2.2.2.2.2.2.2.2.2.2.2.2.2.1 | exact X.2.2.2.2.2.2.2.2.2.2.2.2.2.2.2) rfl ?_
    refine j_getf dX5_person_106 4 1 rfl (Nat.le_of_ble_eq_true rfl) fl_X5_187 in_4 (by first | exact X.1 | exact X.2.1 | exact X.2.2.2.1 | exact X.2.2.2.2.1 | exact X.2.2.2.2.2.2.1.o | exact X.2.2.2.2.2.2.1.c | exact X.2.2.2.2.2.2.1.i | exact X.2.2.2.2.2.2.1.p | exact X.2.2.2.2.2.2.1.d | exact X.2.2.2.2.2.2.2.1.o | exact X.2.2.2.2.2.2.2.2.1 | exact X.2.2.2.2.2.2.2.2.2.1 | exact X.2.2.2.2.2.2.2.2.2.2.2.1 | exact X.2.2.2.2.2.2.2.2.2.2.2.2.2.1 | exact X.2.2.2.2.2.2.2.2.2.2.2.2.2.2.1 | exact X.2.2.2.2.2.2.2.2.2.2.2.2.2.2.2) rfl ?_
    refine j_iload_n dX5_person_109 rfl rfl ?_
    refine j_iald dX5_person_110 (by first | exact X.1 | exact X.2.1 | exact X.2.2.2.1 | exact X.2.2.2.2.1 | exact X.2.2.2.2.2.2.1.o | exact X.2.2.2.2.2.2.1.c | exact X.2.2.2.2.2.2.1.i | exact X.2.2.2.2.2.2.1.p | exact X.2.2.2.2.2.2.1.d | exact X.2.2.2.2.2.2.2.1.o | exact X.2.2.2.2.2.2.2.2.1 | exact X.2.2.2.2.2.2.2.2.2.1 | exact X.2.2.2.2.2.2.2.2.2.2.2.1 | exact X.2.2.2.2.2.2.2.2.2.2.2.2.2.1 | exact X.2.2.2.2.2.2.2.2.2.2.2.2.2.2.1 | exact X.2.2.2.2.2.2.2.2.2.2.2.2.2.2.2) rfl (by omega) (by decide) ?_
    exact j_iret rfl dX5_person_111 rfl rfl (Nat.le_of_ble_eq_true rfl) (Nat.le_of_ble_eq_true rfl)
  · exfalso; omega
theorem x_person_2 (X : XR σ lf fd rl rn ri tp rd dd d df nx kp da di tr bo ne) {p : Nat} (hN : sN d ≤ 7) (hp : p < sN d) : Ct G yX5_person cX5_person 3 (some .int) 5 0 0 z σ [.ref 0, .int (nI p), .int (nI 2)] (some (.int (dsum (sD d) (sN d) p))) z σ := by
  refine Ct.ofJ RX5 rfl [some (.ref 0), some (.int (nI p)), some (.int (nI 2))] rfl (by decide) Nat.le.refl ?_
  refine j_aload_n dX5_person_0 rfl rfl ?_
  refine j_iload_n dX5_person_1 rfl rfl ?_
  refine j_callV (c_isNoPerson X (nI p)) dX5_person_2 rfl mv_X5_155 (by first | exact X.1 | exact X.2.1 | exact X.2.2.2.1 | exact X.2.2.2.2.1 | exact X.2.2.2.2.2.2.1.o | exact X.2.2.2.2.2.2.1.c | exact X.2.2.2.2.2.2.1.i | exact X.2.2.2.2.2.2.1.p | exact X.2.2.2.2.2.2.1.d | exact X.2.2.2.2.2.2.2.1.o | exact X.2.2.2.2.2.2.2.2.1 | exact X.2.2.2.2.2.2.2.2.2.1 | exact X.2.2.2.2.2.2.2.2.2.2.2.1 | exact X.2.2.2.2.2.2.2.2.2.2.2.2.2.1 | exact X.2.2.2.2.2.2.2.2.2.2.2.2.2.2.1 | exact X.2.2.2.2.2.2.2.2.2.2.2.2.2.2.2) rfl ⟨(Nat.le_of_ble_eq_true rfl), (Nat.le_of_ble_eq_true rfl)⟩ ⟨(Nat.le_of_ble_eq_true rfl), (Nat.le_of_ble_eq_true rfl)⟩ (Nat.le_of_ble_eq_true rfl) ?_
  refine j_top (nI 0) (npI_k hp hN) ?_
  refine j_if_eq 11 dX5_person_5 (by decide) (fun _ => ?_) (fun h => absurd rfl h)
  refine j_iload_n dX5_person_11 rfl rfl ?_
  refine j_bipush (nI 10) dX5_person_12 rfl ?_
  refine j_icmp_ltN 44 dX5_person_14 (by decide) (by omega) (by omega) (fun b14 => ?_) (fun b14 => ?_)
  · refine j_iload_n dX5_person_44 rfl rfl ?_
    refine j_tabK 2 112 dX5_person_45 rfl (by decide) (by decide) (by decide) rfl (by decide) ?_
    refine j_aload_n dX5_person_112 rfl rfl ?_
    refine j_getf dX5_person_113 5 4 rfl (Nat.le_of_ble_eq_true rfl) fl_X5_26 in_5 (by first | exact X.1 | exact X.2.1 | exact X.2.2.2.1 | exact X.2.2.2.2.1 | exact X.2.2.2.2.2.2.1.o | exact X.2.2.2.2.2.2.1.c | exact X.2.2.2.2.2.2.1.i | exact X.2.2.2.2.2.2.1.p | exact X.2.2.2.2.2.2.1.d | exact X.2.2.2.2.2.2.2.1.o | exact X.2.2.2.2.2.2.2.2.1 | exact X.2.2.2.2.2.2.2.2.2.1 | exact X.2.2.2.2.2.2.2.2.2.2.2.1 | exact X.2.2.2.2.2.2.2.2.2.2.2.2.2.1 | exact X.2.2.2.2.2.2.2.2.2.2.2.2.2.2.1 | exact X.2.2.2.2.2.2.2.2.2.2.2.2.2.2.2) rfl ?_
    refine j_iload_n dX5_person_116 rfl rfl ?_
    refine j_callV (c_owedByS X.2.2.2.2.2.2.1 hN (by omega)) dX5_person_117 rfl mv_X5_190 (by first | exact X.1 | exact X.2.1 | exact X.2.2.2.1 | exact X.2.2.2.2.1 | exact X.2.2.2.2.2.2.1.o | exact X.2.2.2.2.2.2.1.c | exact X.2.2.2.2.2.2.1.i | exact X.2.2.2.2.2.2.1.p | exact X.2.2.2.2.2.2.1.d | exact X.2.2.2.2.2.2.2.1.o | exact X.2.2.2.2.2.2.2.2.1 | exact X.2.2.2.2.2.2.2.2.2.1 | exact X.2.2.2.2.2.2.2.2.2.2.2.1 | exact X.2.2.2.2.2.2.2.2.2.2.2.2.2.1 | exact X.2.2.2.2.2.2.2.2.2.2.2.2.2.2.1 | exact X.2.2.2.2.2.2.2.2.2.2.2.2.2.2.2) rfl ⟨(Nat.le_of_ble_eq_true rfl), (Nat.le_of_ble_eq_true rfl)⟩ ⟨(Nat.le_of_ble_eq_true rfl), (Nat.le_of_ble_eq_true rfl)⟩ (Nat.le_of_ble_eq_true rfl) ?_
    exact j_iret rfl dX5_person_120 rfl rfl (Nat.le_of_ble_eq_true rfl) (Nat.le_of_ble_eq_true rfl)
  · exfalso; omega
theorem x_person_3 (X : XR σ lf fd rl rn ri tp rd dd d df nx kp da di tr bo ne) {p : Nat} (hN : sN d ≤ 7) (hp : p < sN d) (hu : 1 ≤ sU d) (hu2 : sU d ≤ 20) : Ct G yX5_person cX5_person 3 (some .int) 5 0 0 z σ [.ref 0, .int (nI p), .int (nI 3)] (some (.int (shd (sD d) (sN d) (sU d) p))) z σ := by
  refine Ct.ofJ RX5 rfl [some (.ref 0), some (.int (nI p)), some (.int (nI 3))] rfl (by decide) Nat.le.refl ?_
  refine j_aload_n dX5_person_0 rfl rfl ?_
  refine j_iload_n dX5_person_1 rfl rfl ?_
  refine j_callV (c_isNoPerson X (nI p)) dX5_person_2 rfl mv_X5_155 (by first | exact X.1 | exact X.2.1 | exact X.2.2.2.1 | exact X.2.2.2.2.1 | exact X.2.2.2.2.2.2.1.o | exact X.2.2.2.2.2.2.1.c | exact X.2.2.2.2.2.2.1.i | exact X.2.2.2.2.2.2.1.p | exact X.2.2.2.2.2.2.1.d | exact X.2.2.2.2.2.2.2.1.o | exact X.2.2.2.2.2.2.2.2.1 | exact X.2.2.2.2.2.2.2.2.2.1 | exact X.2.2.2.2.2.2.2.2.2.2.2.1 | exact X.2.2.2.2.2.2.2.2.2.2.2.2.2.1 | exact X.2.2.2.2.2.2.2.2.2.2.2.2.2.2.1 | exact X.2.2.2.2.2.2.2.2.2.2.2.2.2.2.2) rfl ⟨(Nat.le_of_ble_eq_true rfl), (Nat.le_of_ble_eq_true rfl)⟩ ⟨(Nat.le_of_ble_eq_true rfl), (Nat.le_of_ble_eq_true rfl)⟩ (Nat.le_of_ble_eq_true rfl) ?_
  refine j_top (nI 0) (npI_k hp hN) ?_
  refine j_if_eq 11 dX5_person_5 (by decide) (fun _ => ?_) (fun h => absurd rfl h)
  refine j_iload_n dX5_person_11 rfl rfl ?_
  refine j_bipush (nI 10) dX5_person_12 rfl ?_
  refine j_icmp_ltN 44 dX5_person_14 (by decide) (by omega) (by omega) (fun b14 => ?_) (fun b14 => ?_)
  · refine j_iload_n dX5_person_44 rfl rfl ?_
    refine j_tabK 3 121 dX5_person_45 rfl (by decide) (by decide) (by decide) rfl (by decide) ?_
    refine j_aload_n dX5_person_121 rfl rfl ?_
    refine j_getf dX5_person_122 5 4 rfl (Nat.le_of_ble_eq_true rfl) fl_X5_26 in_5 (by first | exact X.1 | exact X.2.1 | exact X.2.2.2.1 | exact X.2.2.2.2.1 | exact X.2.2.2.2.2.2.1.o | exact X.2.2.2.2.2.2.1.c | exact X.2.2.2.2.2.2.1.i | exact X.2.2.2.2.2.2.1.p | exact X.2.2.2.2.2.2.1.d | exact X.2.2.2.2.2.2.2.1.o | exact X.2.2.2.2.2.2.2.2.1 | exact X.2.2.2.2.2.2.2.2.2.1 | exact X.2.2.2.2.2.2.2.2.2.2.2.1 | exact X.2.2.2.2.2.2.2.2.2.2.2.2.2.1 | exact X.2.2.2.2.2.2.2.2.2.2.2.2.2.2.1 | exact X.2.2.2.2.2.2.2.2.2.2.2.2.2.2.2) rfl ?_
    refine j_iload_n dX5_person_125 rfl rfl ?_
    refine j_callV (c_shadeOfS X.2.2.2.2.2.2.1 hN (by omega) hu hu2) dX5_person_126 rfl mv_X5_193 (by first | exact X.1 | exact X.2.1 | exact X.2.2.2.1 | exact X.2.2.2.2.1 | exact X.2.2.2.2.2.2.1.o | exact X.2.2.2.2.2.2.1.c | exact X.2.2.2.2.2.2.1.i | exact X.2.2.2.2.2.2.1.p | exact X.2.2.2.2.2.2.1.d | exact X.2.2.2.2.2.2.2.1.o | exact X.2.2.2.2.2.2.2.2.1 | exact X.2.2.2.2.2.2.2.2.2.1 | exact X.2.2.2.2.2.2.2.2.2.2.2.1 | exact X.2.2.2.2.2.2.2.2.2.2.2.2.2.1 | exact X.2.2.2.2.2.2.2.2.2.2.2.2.2.2.1 | exact X.2.2.2.2.2.2.2.2.2.2.2.2.2.2.2) rfl ⟨(Nat.le_of_ble_eq_true rfl), (Nat.le_of_ble_eq_true rfl)⟩ ⟨(Nat.le_of_ble_eq_true rfl), (Nat.le_of_ble_eq_true rfl)⟩ (Nat.le_of_ble_eq_true rfl) ?_
    exact j_iret rfl dX5_person_129 rfl rfl (Nat.le_of_ble_eq_true rfl) (Nat.le_of_ble_eq_true rfl)
  · exfalso; omega
theorem x_person_4 (X : XR σ lf fd rl rn ri tp rd dd d df nx kp da di tr bo ne) {p : Nat} (hN : sN d ≤ 7) (hp : p < sN d) (hu : 1 ≤ sU d) (hu2 : sU d ≤ 20) : Ct G yX5_person cX5_person 3 (some .int) 5 0 0 z σ [.ref 0, .int (nI p), .int (nI 4)] (some (.int (lks (sP d) (sD d) (sN d) (sU d) p))) z σ := by
  refine Ct.ofJ RX5 rfl [some (.ref 0), some (.int (nI p)), some (.int (nI 4))] rfl (by decide) Nat.le.refl ?_
  refine j_aload_n dX5_person_0 rfl rfl ?_
  refine j_iload_n dX5_person_1 rfl rfl ?_
  refine j_callV (c_isNoPerson X (nI p)) dX5_person_2 rfl mv_X5_155 (by first | exact X.1 | exact X.2.1 | exact X.2.2.2.1 | exact X.2.2.2.2.1 | exact X.2.2.2.2.2.2.1.o | exact X.2.2.2.2.2.2.1.c | exact X.2.2.2.2.2.2.1.i | exact X.2.2.2.2.2.2.1.p | exact X.2.2.2.2.2.2.1.d | exact X.2.2.2.2.2.2.2.1.o | exact X.2.2.2.2.2.2.2.2.1 | exact X.2.2.2.2.2.2.2.2.2.1 | exact X.2.2.2.2.2.2.2.2.2.2.2.1 | exact X.2.2.2.2.2.2.2.2.2.2.2.2.2.1 | exact X.2.2.2.2.2.2.2.2.2.2.2.2.2.2.1 | exact X.2.2.2.2.2.2.2.2.2.2.2.2.2.2.2) rfl ⟨(Nat.le_of_ble_eq_true rfl), (Nat.le_of_ble_eq_true rfl)⟩ ⟨(Nat.le_of_ble_eq_true rfl), (Nat.le_of_ble_eq_true rfl)⟩ (Nat.le_of_ble_eq_true rfl) ?_
  refine j_top (nI 0) (npI_k hp hN) ?_
  refine j_if_eq 11 dX5_person_5 (by decide) (fun _ => ?_) (fun h => absurd rfl h)
  refine j_iload_n dX5_person_11 rfl rfl ?_
  refine j_bipush (nI 10) dX5_person_12 rfl ?_
  refine j_icmp_ltN 44 dX5_person_14 (by decide) (by omega) (by omega) (fun b14 => ?_) (fun b14 => ?_)
  · refine j_iload_n dX5_person_44 rfl rfl ?_
    refine j_tabK 4 130 dX5_person_45 rfl (by decide) (by decide) (by decide) rfl (by decide) ?_
    refine j_aload_n dX5_person_130 rfl rfl ?_
    refine j_getf dX5_person_131 5 4 rfl (Nat.le_of_ble_eq_true rfl) fl_X5_26 in_5 (by first | exact X.1 | exact X.2.1 | exact X.2.2.2.1 | exact X.2.2.2.2.1 | exact X.2.2.2.2.2.2.1.o | exact X.2.2.2.2.2.2.1.c | exact X.2.2.2.2.2.2.1.i | exact X.2.2.2.2.2.2.1.p | exact X.2.2.2.2.2.2.1.d | exact X.2.2.2.2.2.2.2.1.o | exact X.2.2.2.2.2.2.2.2.1 | exact X.2.2.2.2.2.2.2.2.2.1 | exact X.2.2.2.2.2.2.2.2.2.2.2.1 | exact X.2.2.2.2.2.2.2.2.2.2.2.2.2.1 | exact X.2.2.2.2.2.2.2.2.2.2.2.2.2.2.1 | exact X.2.2.2.2.2.2.2.2.2.2.2.2.2.2.2) rfl ?_
    refine j_iload_n dX5_person_134 rfl rfl ?_
    refine j_callV (c_looksOfS X.2.2.2.2.2.2.1 hN (by omega) hu hu2) dX5_person_135 rfl mv_X5_158 (by first | exact X.1 | exact X.2.1 | exact X.2.2.2.1 | exact X.2.2.2.2.1 | exact X.2.2.2.2.2.2.1.o | exact X.2.2.2.2.2.2.1.c | exact X.2.2.2.2.2.2.1.i | exact X.2.2.2.2.2.2.1.p | exact X.2.2.2.2.2.2.1.d | exact X.2.2.2.2.2.2.2.1.o | exact X.2.2.2.2.2.2.2.2.1 | exact X.2.2.2.2.2.2.2.2.2.1 | exact X.2.2.2.2.2.2.2.2.2.2.2.1 | exact X.2.2.2.2.2.2.2.2.2.2.2.2.2.1 | exact X.2.2.2.2.2.2.2.2.2.2.2.2.2.2.1 | exact X.2.2.2.2.2.2.2.2.2.2.2.2.2.2.2) rfl ⟨(Nat.le_of_ble_eq_true rfl), (Nat.le_of_ble_eq_true rfl)⟩ ⟨(Nat.le_of_ble_eq_true rfl), (Nat.le_of_ble_eq_true rfl)⟩ (Nat.le_of_ble_eq_true rfl) ?_
    exact j_iret rfl dX5_person_138 rfl rfl (Nat.le_of_ble_eq_true rfl) (Nat.le_of_ble_eq_true rfl)
  · exfalso; omega
theorem x_person_5 (X : XR σ lf fd rl rn ri tp rd dd d df nx kp da di tr bo ne) {p : Nat} (hN : sN d ≤ 7) (hp : p < sN d) : Ct G yX5_person cX5_person 3 (some .int) 5 0 0 z σ [.ref 0, .int (nI p), .int (nI 5)] (some (.int (bitI (sH d) (nI p)))) z σ := by
  refine Ct.ofJ RX5 rfl [some (.ref 0), some (.int (nI p)), some (.int (nI 5))] rfl (by decide) Nat.le.refl ?_
  refine j_aload_n dX5_person_0 rfl rfl ?_
  refine j_iload_n dX5_person_1 rfl rfl ?_
  refine j_callV (c_isNoPerson X (nI p)) dX5_person_2 rfl mv_X5_155 (by first | exact X.1 | exact X.2.1 | exact X.2.2.2.1 | exact X.2.2.2.2.1 | exact X.2.2.2.2.2.2.1.o | exact X.2.2.2.2.2.2.1.c | exact X.2.2.2.2.2.2.1.i | exact X.2.2.2.2.2.2.1.p | exact X.2.2.2.2.2.2.1.d | exact X.2.2.2.2.2.2.2.1.o | exact X.2.2.2.2.2.2.2.2.1 | exact X.2.2.2.2.2.2.2.2.2.1 | exact X.2.2.2.2.2.2.2.2.2.2.2.1 | exact X.2.2.2.2.2.2.2.2.2.2.2.2.2.1 | exact X.2.2.2.2.2.2.2.2.2.2.2.2.2.2.1 | exact X.2.2.2.2.2.2.2.2.2.2.2.2.2.2.2) rfl ⟨(Nat.le_of_ble_eq_true rfl), (Nat.le_of_ble_eq_true rfl)⟩ ⟨(Nat.le_of_ble_eq_true rfl), (Nat.le_of_ble_eq_true rfl)⟩ (Nat.le_of_ble_eq_true rfl) ?_
  refine j_top (nI 0) (npI_k hp hN) ?_
  refine j_if_eq 11 dX5_person_5 (by decide) (fun _ => ?_) (fun h => absurd rfl h)
  refine j_iload_n dX5_person_11 rfl rfl ?_
  refine j_bipush (nI 10) dX5_person_12 rfl ?_
  refine j_icmp_ltN 44 dX5_person_14 (by decide) (by omega) (by omega) (fun b14 => ?_) (fun b14 => ?_)
  · refine j_iload_n dX5_person_44 rfl rfl ?_
    refine j_tabK 5 139 dX5_person_45 rfl (by decide) (by decide) (by decide) rfl (by decide) ?_
    refine j_aload_n dX5_person_139 rfl rfl ?_
    refine j_getf dX5_person_140 5 4 rfl (Nat.le_of_ble_eq_true rfl) fl_X5_26 in_5 (by first | exact X.1 | exact X.2.1 | exact X.2.2.2.1 | exact X.2.2.2.2.1 | exact X.2.2.2.2.2.2.1.o | exact X.2.2.2.2.2.2.1.c | exact X.2.2.2.2.2.2.1.i | exact X.2.2.2.2.2.2.1.p | exact X.2.2.2.2.2.2.1.d | exact X.2.2.2.2.2.2.2.1.o | exact X.2.2.2.2.2.2.2.2.1 | exact X.2.2.2.2.2.2.2.2.2.1 | exact X.2.2.2.2.2.2.2.2.2.2.2.1 | exact X.2.2.2.2.2.2.2.2.2.2.2.2.2.1 | exact X.2.2.2.2.2.2.2.2.2.2.2.2.2.2.1 | exact X.2.2.2.2.2.2.2.2.2.2.2.2.2.2.2) rfl ?_
    refine j_getf dX5_person_143 4 8 rfl (Nat.le_of_ble_eq_true rfl) fl_X5_164 in_4 (by first | exact X.1 | exact X.2.1 | exact X.2.2.2.1 | exact X.2.2.2.2.1 | exact X.2.2.2.2.2.2.1.o | exact X.2.2.2.2.2.2.1.c | exact X.2.2.2.2.2.2.1.i | exact X.2.2.2.2.2.2.1.p | exact X.2.2.2.2.2.2.1.d | exact X.2.2.2.2.2.2.2.1.o | exact X.2.2.2.2.2.2.2.2.1 | exact X.2.2.2.2.2.2.2.2.2.1 | exact X.2.2.2.2.2.2.2.2.2.2.2.1 | exact X.2.2.2.2.2.2.2.2.2.2.2.2.2.1 | exact X.2.2.2.2.2.2.2.2.2.2.2.2.2.2.1 | exact X.2.2.2.2.2.2.2.2.2.2.2.2.2.2.2) rfl ?_
    refine j_iload_n dX5_person_146 rfl rfl ?_
    refine j_callS (c_bitOf G z _ (sH d) (nI p)) dX5_person_147 rfl ms_X5_167 ⟨(Nat.le_of_ble_eq_true rfl), (Nat.le_of_ble_eq_true rfl)⟩ ⟨(Nat.le_of_ble_eq_true rfl), (Nat.le_of_ble_eq_true rfl)⟩ (Nat.le_of_ble_eq_true rfl) ?_
    exact j_iret rfl dX5_person_150 rfl rfl (Nat.le_of_ble_eq_true rfl) (Nat.le_of_ble_eq_true rfl)
  · exfalso; omega
theorem x_person_6 (X : XR σ lf fd rl rn ri tp rd dd d df nx kp da di tr bo ne) {p : Nat} (hN : sN d ≤ 7) (hp : p < sN d) : Ct G yX5_person cX5_person 3 (some .int) 5 0 0 z σ [.ref 0, .int (nI p), .int (nI 6)] (some (.int (bitI (sF d) (nI p)))) z σ := by
  refine Ct.ofJ RX5 rfl [some (.ref 0), some (.int (nI p)), some (.int (nI 6))] rfl (by decide) Nat.le.refl ?_
  refine j_aload_n dX5_person_0 rfl rfl ?_
  refine j_iload_n dX5_person_1 rfl rfl ?_
  refine j_callV (c_isNoPerson X (nI p)) dX5_person_2 rfl mv_X5_155 (by first | exact X.1 | exact X.2.1 | exact X.2.2.2.1 | exact X.2.2.2.2.1 | exact X.2.2.2.2.2.2.1.o | exact X.2.2.2.2.2.2.1.c | exact X.2.2.2.2.2.2.1.i | exact X.2.2.2.2.2.2.1.p | exact X.2.2.2.2.2.2.1.d | exact X.2.2.2.2.2.2.2.1.o | exact X.2.2.2.2.2.2.2.2.1 | exact X.2.2.2.2.2.2.2.2.2.1 | exact X.2.2.2.2.2.2.2.2.2.2.2.1 | exact X.2.2.2.2.2.2.2.2.2.2.2.2.2.1 | exact X.2.2.2.2.2.2.2.2.2.2.2.2.2.2.1 | exact X.2.2.2.2.2.2.2.2.2.2.2.2.2.2.2) rfl ⟨(Nat.le_of_ble_eq_true rfl), (Nat.le_of_ble_eq_true rfl)⟩ ⟨(Nat.le_of_ble_eq_true rfl), (Nat.le_of_ble_eq_true rfl)⟩ (Nat.le_of_ble_eq_true rfl) ?_
  refine j_top (nI 0) (npI_k hp hN) ?_
  refine j_if_eq 11 dX5_person_5 (by decide) (fun _ => ?_) (fun h => absurd rfl h)
  refine j_iload_n dX5_person_11 rfl rfl ?_
  refine j_bipush (nI 10) dX5_person_12 rfl ?_
  refine j_icmp_ltN 44 dX5_person_14 (by decide) (by omega) (by omega) (fun b14 => ?_) (fun b14 => ?_)
  · refine j_iload_n dX5_person_44 rfl rfl ?_
    refine j_tabK 6 151 dX5_person_45 rfl (by decide) (by decide) (by decide) rfl (by decide) ?_
    refine j_aload_n dX5_person_151 rfl rfl ?_
    refine j_getf dX5_person_152 5 4 rfl (Nat.le_of_ble_eq_true rfl) fl_X5_26 in_5 (by first | exact X.1 | exact X.2.1 | exact X.2.2.2.1 | exact X.2.2.2.2.1 | exact X.2.2.2.2.2.2.1.o | exact X.2.2.2.2.2.2.1.c | exact X.2.2.2.2.2.2.1.i | exact X.2.2.2.2.2.2.1.p | exact X.2.2.2.2.2.2.1.d | exact X.2.2.2.2.2.2.2.1.o | exact X.2.2.2.2.2.2.2.2.1 | exact X.2.2.2.2.2.2.2.2.2.1 | exact X.2.2.2.2.2.2.2.2.2.2.2.1 | exact X.2.2.2.2.2.2.2.2.2.2.2.2.2.1 | exact X.2.2.2.2.2.2.2.2.2.2.2.2.2.2.1 | exact X.2.2.2.2.2.2.2.2.2.2.2.2.2.2.2) rfl ?_
    refine j_getf dX5_person_155 4 9 rfl (Nat.le_of_ble_eq_true rfl) fl_X5_196 in_4 (by first | exact X.1 | exact X.2.1 | exact X.2.2.2.1 | exact X.2.2.2.2.1 | exact X.2.2.2.2.2.2.1.o | exact X.2.2.2.2.2.2.1.c | exact X.2.2.2.2.2.2.1.i | exact X.2.2.2.2.2.2.1.p | exact X.2.2.2.2.2.2.1.d | exact X.2.2.2.2.2.2.2.1.o | exact X.2.2.2.2.2.2.2.2.1 | exact X.2.2.2.2.2.2.2.2.2.1 | exact X.2.2.2.2.2.2.2.2.2.2.2.1 | exact X.2.2.2.2.2.2.2.2.2.2.2.2.2.1 | exact X.2.2.2.2.2.2.2.2.2.2.2.2.2.2.1 | exact X.2.2.2.2.2.2.2.2.2.2.2.2.2.2.2) rfl ?_
    refine j_iload_n dX5_person_158 rfl rfl ?_
    refine j_callS (c_bitOf G z _ (sF d) (nI p)) dX5_person_159 rfl ms_X5_167 ⟨(Nat.le_of_ble_eq_true rfl), (Nat.le_of_ble_eq_true rfl)⟩ ⟨(Nat.le_of_ble_eq_true rfl), (Nat.le_of_ble_eq_true rfl)⟩ (Nat.le_of_ble_eq_true rfl) ?_
    exact j_iret rfl dX5_person_162 rfl rfl (Nat.le_of_ble_eq_true rfl) (Nat.le_of_ble_eq_true rfl)
  · exfalso; omega
theorem x_person_7 (X : XR σ lf fd rl rn ri tp rd dd d df nx kp da di tr bo ne) {p : Nat} (hN : sN d ≤ 7) (hp : p < sN d) : Ct G yX5_person cX5_person 3 (some .int) 5 0 0 z σ [.ref 0, .int (nI p), .int (nI 7)] (some (.int (tsum (sD d) (sN d) p - dsum (sD d) (sN d) p))) z σ := by
  refine Ct.ofJ RX5 rfl [some (.ref 0), some (.int (nI p)), some (.int (nI 7))] rfl (by decide) Nat.le.refl ?_
  refine j_aload_n dX5_person_0 rfl rfl ?_
  refine j_iload_n dX5_person_1 rfl rfl ?_
  refine j_callV (c_isNoPerson X (nI p)) dX5_person_2 rfl mv_X5_155 (by first | exact X.1 | exact X.2.1 | exact X.2.2.2.1 | exact X.2.2.2.2.1 | exact X.2.2.2.2.2.2.1.o | exact X.2.2.2.2.2.2.1.c | exact X.2.2.2.2.2.2.1.i | exact X.2.2.2.2.2.2.1.p | exact X.2.2.2.2.2.2.1.d | exact X.2.2.2.2.2.2.2.1.o | exact X.2.2.2.2.2.2.2.2.1 | exact X.2.2.2.2.2.2.2.2.2.1 | exact X.2.2.2.2.2.2.2.2.2.2.2.1 | exact X.2.2.2.2.2.2.2.2.2.2.2.2.2.1 | exact X.2.2.2.2.2.2.2.2.2.2.2.2.2.2.1 | exact X.2.2.2.2.2.2.2.2.2.2.2.2.2.2.2) rfl ⟨(Nat.le_of_ble_eq_true rfl), (Nat.le_of_ble_eq_true rfl)⟩ ⟨(Nat.le_of_ble_eq_true rfl), (Nat.le_of_ble_eq_true rfl)⟩ (Nat.le_of_ble_eq_true rfl) ?_
  refine j_top (nI 0) (npI_k hp hN) ?_
  refine j_if_eq 11 dX5_person_5 (by decide) (fun _ => ?_) (fun h => absurd rfl h)
  refine j_iload_n dX5_person_11 rfl rfl ?_
  refine j_bipush (nI 10) dX5_person_12 rfl ?_
  refine j_icmp_ltN 44 dX5_person_14 (by decide) (by omega) (by omega) (fun b14 => ?_) (fun b14 => ?_)
  · refine j_iload_n dX5_person_44 rfl rfl ?_
    refine j_tabK 7 163 dX5_person_45 rfl (by decide) (by decide) (by decide) rfl (by decide) ?_
    refine j_aload_n dX5_person_163 rfl rfl ?_
    refine j_getf dX5_person_164 5 4 rfl (Nat.le_of_ble_eq_true rfl) fl_X5_26 in_5 (by first | exact X.1 | exact X.2.1 | exact X.2.2.2.1 | exact X.2.2.2.2.1 | exact X.2.2.2.2.2.2.1.o | exact X.2.2.2.2.2.2.1.c | exact X.2.2.2.2.2.2.1.i | exact X.2.2.2.2.2.2.1.p | exact X.2.2.2.2.2.2.1.d | exact X.2.2.2.2.2.2.2.1.o | exact X.2.2.2.2.2.2.2.2.1 | exact X.2.2.2.2.2.2.2.2.2.1 | exact X.2.2.2.2.2.2.2.2.2.2.2.1 | exact X.2.2.2.2.2.2.2.2.2.2.2.2.2.1 | exact X.2.2.2.2.2.2.2.2.2.2.2.2.2.2.1 | exact X.2.2.2.2.2.2.2.2.2.2.2.2.2.2.2) rfl ?_
    refine j_iload_n dX5_person_167 rfl rfl ?_
    refine j_callV (c_owedToS X.2.2.2.2.2.2.1 hN (by omega)) dX5_person_168 rfl mv_X5_199 (by first | exact X.1 | exact X.2.1 | exact X.2.2.2.1 | exact X.2.2.2.2.1 | exact X.2.2.2.2.2.2.1.o | exact X.2.2.2.2.2.2.1.c | exact X.2.2.2.2.2.2.1.i | exact X.2.2.2.2.2.2.1.p | exact X.2.2.2.2.2.2.1.d | exact X.2.2.2.2.2.2.2.1.o | exact X.2.2.2.2.2.2.2.2.1 | exact X.2.2.2.2.2.2.2.2.2.1 | exact X.2.2.2.2.2.2.2.2.2.2.2.1 | exact X.2.2.2.2.2.2.2.2.2.2.2.2.2.1 | exact X.2.2.2.2.2.2.2.2.2.2.2.2.2.2.1 | exact X.2.2.2.2.2.2.2.2.2.2.2.2.2.2.2) rfl ⟨(Nat.le_of_ble_eq_true rfl), (Nat.le_of_ble_eq_true rfl)⟩ ⟨(Nat.le_of_ble_eq_true rfl), (Nat.le_of_ble_eq_true rfl)⟩ (Nat.le_of_ble_eq_true rfl) ?_
    refine j_aload_n dX5_person_171 rfl rfl ?_
    refine j_getf dX5_person_172 5 4 rfl (Nat.le_of_ble_eq_true rfl) fl_X5_26 in_5 (by first | exact X.1 | exact X.2.1 | exact X.2.2.2.1 | exact X.2.2.2.2.1 | exact X.2.2.2.2.2.2.1.o | exact X.2.2.2.2.2.2.1.c | exact X.2.2.2.2.2.2.1.i | exact X.2.2.2.2.2.2.1.p | exact X.2.2.2.2.2.2.1.d | exact X.2.2.2.2.2.2.2.1.o | exact X.2.2.2.2.2.2.2.2.1 | exact X.2.2.2.2.2.2.2.2.2.1 | exact X.2.2.2.2.2.2.2.2.2.2.2.1 | exact X.2.2.2.2.2.2.2.2.2.2.2.2.2.1 | exact X.2.2.2.2.2.2.2.2.2.2.2.2.2.2.1 | exact X.2.2.2.2.2.2.2.2.2.2.2.2.2.2.2) rfl ?_
    refine j_iload_n dX5_person_175 rfl rfl ?_
    refine j_callV (c_owedByS X.2.2.2.2.2.2.1 hN (by omega)) dX5_person_176 rfl mv_X5_190 (by first | exact X.1 | exact X.2.1 | exact X.2.2.2.1 | exact X.2.2.2.2.1 | exact X.2.2.2.2.2.2.1.o | exact X.2.2.2.2.2.2.1.c | exact X.2.2.2.2.2.2.1.i | exact X.2.2.2.2.2.2.1.p | exact X.2.2.2.2.2.2.1.d | exact X.2.2.2.2.2.2.2.1.o | exact X.2.2.2.2.2.2.2.2.1 | exact X.2.2.2.2.2.2.2.2.2.1 | exact X.2.2.2.2.2.2.2.2.2.2.2.1 | exact X.2.2.2.2.2.2.2.2.2.2.2.2.2.1 | exact X.2.2.2.2.2.2.2.2.2.2.2.2.2.2.1 | exact X.2.2.2.2.2.2.2.2.2.2.2.2.2.2.2) rfl ⟨(Nat.le_of_ble_eq_true rfl), (Nat.le_of_ble_eq_true rfl)⟩ ⟨(Nat.le_of_ble_eq_true rfl), (Nat.le_of_ble_eq_true rfl)⟩ (Nat.le_of_ble_eq_true rfl) ?_
    refine j_isub dX5_person_179 ?_
    exact j_iret rfl dX5_person_180 rfl rfl (Nat.le_of_ble_eq_true rfl) (Nat.le_of_ble_eq_true rfl)
  · exfalso; omega
end O3

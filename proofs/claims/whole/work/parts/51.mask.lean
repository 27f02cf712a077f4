/-! THE MODEL's calls: ask (template printed by wip/tools/mkm51.py) -/
theorem dX6_sizeLent_0 : decode cX6_sizeLent 0 = .ok (.aload_n 0, 1) := by decide +kernel
theorem dX6_sizeLent_1 : decode cX6_sizeLent 1 = .ok (.bipush 10, 2) := by decide +kernel
theorem dX6_sizeLent_3 : decode cX6_sizeLent 3 = .ok (.invokevirtual 213, 3) := by decide +kernel
theorem dX6_sizeLent_6 : decode cX6_sizeLent 6 = .ok (.aload_n 0, 1) := by decide +kernel
theorem dX6_sizeLent_7 : decode cX6_sizeLent 7 = .ok (.getfield 7, 3) := by decide +kernel
theorem dX6_sizeLent_10 : decode cX6_sizeLent 10 = .ok (.iconst 4, 1) := by decide +kernel
theorem dX6_sizeLent_11 : decode cX6_sizeLent 11 = .ok (.iload_n 1, 1) := by decide +kernel
theorem dX6_sizeLent_12 : decode cX6_sizeLent 12 = .ok (.iadd, 1) := by decide +kernel
theorem dX6_sizeLent_13 : decode cX6_sizeLent 13 = .ok (.iaload, 1) := by decide +kernel
theorem dX6_sizeLent_14 : decode cX6_sizeLent 14 = .ok (.ireturn, 1) := by decide +kernel
theorem dX6_markLent_0 : decode cX6_markLent 0 = .ok (.aload_n 0, 1) := by decide +kernel
theorem dX6_markLent_1 : decode cX6_markLent 1 = .ok (.bipush 20, 2) := by decide +kernel
theorem dX6_markLent_3 : decode cX6_markLent 3 = .ok (.invokevirtual 213, 3) := by decide +kernel
theorem dX6_markLent_6 : decode cX6_markLent 6 = .ok (.iload_n 1, 1) := by decide +kernel
theorem dX6_markLent_7 : decode cX6_markLent 7 = .ok (.ireturn, 1) := by decide +kernel
theorem dX6_markOwing_0 : decode cX6_markOwing 0 = .ok (.iconst 0, 1) := by decide +kernel
theorem dX6_markOwing_1 : decode cX6_markOwing 1 = .ok (.istore_n 3, 1) := by decide +kernel
theorem dX6_markOwing_2 : decode cX6_markOwing 2 = .ok (.iload_n 2, 1) := by decide +kernel
theorem dX6_markOwing_3 : decode cX6_markOwing 3 = .ok (.iconst 3, 1) := by decide +kernel
theorem dX6_markOwing_4 : decode cX6_markOwing 4 = .ok (.if_icmp .ne 9, 3) := by decide +kernel
theorem dX6_markOwing_7 : decode cX6_markOwing 7 = .ok (.aload_n 0, 1) := by decide +kernel
theorem dX6_markOwing_8 : decode cX6_markOwing 8 = .ok (.bipush 24, 2) := by decide +kernel
theorem dX6_markOwing_10 : decode cX6_markOwing 10 = .ok (.invokevirtual 213, 3) := by decide +kernel
theorem dX6_markOwing_13 : decode cX6_markOwing 13 = .ok (.iload_n 2, 1) := by decide +kernel
theorem dX6_markOwing_14 : decode cX6_markOwing 14 = .ok (.iconst 1, 1) := by decide +kernel
theorem dX6_markOwing_15 : decode cX6_markOwing 15 = .ok (.if_icmp .le 9, 3) := by decide +kernel
theorem dX6_markOwing_18 : decode cX6_markOwing 18 = .ok (.aload_n 0, 1) := by decide +kernel
theorem dX6_markOwing_19 : decode cX6_markOwing 19 = .ok (.bipush 22, 2) := by decide +kernel
theorem dX6_markOwing_21 : decode cX6_markOwing 21 = .ok (.invokevirtual 213, 3) := by decide +kernel
theorem dX6_markOwing_24 : decode cX6_markOwing 24 = .ok (.aload_n 0, 1) := by decide +kernel
theorem dX6_markOwing_25 : decode cX6_markOwing 25 = .ok (.bipush 21, 2) := by decide +kernel
theorem dX6_markOwing_27 : decode cX6_markOwing 27 = .ok (.invokevirtual 213, 3) := by decide +kernel
theorem dX6_markOwing_30 : decode cX6_markOwing 30 = .ok (.aload_n 0, 1) := by decide +kernel
theorem dX6_markOwing_31 : decode cX6_markOwing 31 = .ok (.iload_n 1, 1) := by decide +kernel
theorem dX6_markOwing_32 : decode cX6_markOwing 32 = .ok (.invokevirtual 217, 3) := by decide +kernel
theorem dX6_markOwing_35 : decode cX6_markOwing 35 = .ok (.aload_n 0, 1) := by decide +kernel
theorem dX6_markOwing_36 : decode cX6_markOwing 36 = .ok (.getfield 7, 3) := by decide +kernel
theorem dX6_markOwing_39 : decode cX6_markOwing 39 = .ok (.iload_n 1, 1) := by decide +kernel
theorem dX6_markOwing_40 : decode cX6_markOwing 40 = .ok (.invokestatic 151, 3) := by decide +kernel
theorem dX6_markOwing_43 : decode cX6_markOwing 43 = .ok (.iadd, 1) := by decide +kernel
theorem dX6_markOwing_44 : decode cX6_markOwing 44 = .ok (.istore_n 3, 1) := by decide +kernel
theorem dX6_markOwing_45 : decode cX6_markOwing 45 = .ok (.iload_n 3, 1) := by decide +kernel
theorem dX6_markOwing_46 : decode cX6_markOwing 46 = .ok (.iload_n 2, 1) := by decide +kernel
theorem dX6_markOwing_47 : decode cX6_markOwing 47 = .ok (.iconst 1, 1) := by decide +kernel
theorem dX6_markOwing_48 : decode cX6_markOwing 48 = .ok (.if_icmp .le 9, 3) := by decide +kernel
theorem dX6_markOwing_51 : decode cX6_markOwing 51 = .ok (.sipush 1000, 3) := by decide +kernel
theorem dX6_markOwing_54 : decode cX6_markOwing 54 = .ok (.goto 4, 3) := by decide +kernel
theorem dX6_markOwing_57 : decode cX6_markOwing 57 = .ok (.iconst 0, 1) := by decide +kernel
theorem dX6_markOwing_58 : decode cX6_markOwing 58 = .ok (.isub, 1) := by decide +kernel
theorem dX6_markOwing_59 : decode cX6_markOwing 59 = .ok (.istore_n 3, 1) := by decide +kernel
theorem dX6_markOwing_60 : decode cX6_markOwing 60 = .ok (.iload_n 2, 1) := by decide +kernel
theorem dX6_markOwing_61 : decode cX6_markOwing 61 = .ok (.iconst 3, 1) := by decide +kernel
theorem dX6_markOwing_62 : decode cX6_markOwing 62 = .ok (.if_icmp .ne 9, 3) := by decide +kernel
theorem dX6_markOwing_65 : decode cX6_markOwing 65 = .ok (.iconst 2, 1) := by decide +kernel
theorem dX6_markOwing_66 : decode cX6_markOwing 66 = .ok (.iload_n 3, 1) := by decide +kernel
theorem dX6_markOwing_67 : decode cX6_markOwing 67 = .ok (.imul, 1) := by decide +kernel
theorem dX6_markOwing_68 : decode cX6_markOwing 68 = .ok (.goto 4, 3) := by decide +kernel
theorem dX6_markOwing_71 : decode cX6_markOwing 71 = .ok (.iload_n 3, 1) := by decide +kernel
theorem dX6_markOwing_72 : decode cX6_markOwing 72 = .ok (.ireturn, 1) := by decide +kernel
theorem dX6_sizeFree_0 : decode cX6_sizeFree 0 = .ok (.iload_n 2, 1) := by decide +kernel
theorem dX6_sizeFree_1 : decode cX6_sizeFree 1 = .ok (.iconst 5, 1) := by decide +kernel
theorem dX6_sizeFree_2 : decode cX6_sizeFree 2 = .ok (.if_icmp .ne 9, 3) := by decide +kernel
theorem dX6_sizeFree_5 : decode cX6_sizeFree 5 = .ok (.aload_n 0, 1) := by decide +kernel
theorem dX6_sizeFree_6 : decode cX6_sizeFree 6 = .ok (.bipush 14, 2) := by decide +kernel
theorem dX6_sizeFree_8 : decode cX6_sizeFree 8 = .ok (.invokevirtual 213, 3) := by decide +kernel
theorem dX6_sizeFree_11 : decode cX6_sizeFree 11 = .ok (.aload_n 0, 1) := by decide +kernel
theorem dX6_sizeFree_12 : decode cX6_sizeFree 12 = .ok (.bipush 13, 2) := by decide +kernel
theorem dX6_sizeFree_14 : decode cX6_sizeFree 14 = .ok (.invokevirtual 213, 3) := by decide +kernel
theorem dX6_sizeFree_17 : decode cX6_sizeFree 17 = .ok (.aload_n 0, 1) := by decide +kernel
theorem dX6_sizeFree_18 : decode cX6_sizeFree 18 = .ok (.iload_n 1, 1) := by decide +kernel
theorem dX6_sizeFree_19 : decode cX6_sizeFree 19 = .ok (.invokevirtual 220, 3) := by decide +kernel
theorem dX6_sizeFree_22 : decode cX6_sizeFree 22 = .ok (.bipush 100, 2) := by decide +kernel
theorem dX6_sizeFree_24 : decode cX6_sizeFree 24 = .ok (.isub, 1) := by decide +kernel
theorem dX6_sizeFree_25 : decode cX6_sizeFree 25 = .ok (.istore_n 3, 1) := by decide +kernel
theorem dX6_sizeFree_26 : decode cX6_sizeFree 26 = .ok (.iload_n 2, 1) := by decide +kernel
theorem dX6_sizeFree_27 : decode cX6_sizeFree 27 = .ok (.iconst 5, 1) := by decide +kernel
theorem dX6_sizeFree_28 : decode cX6_sizeFree 28 = .ok (.if_icmp .ne 9, 3) := by decide +kernel
theorem dX6_sizeFree_31 : decode cX6_sizeFree 31 = .ok (.iconst 2, 1) := by decide +kernel
theorem dX6_sizeFree_32 : decode cX6_sizeFree 32 = .ok (.iload_n 3, 1) := by decide +kernel
theorem dX6_sizeFree_33 : decode cX6_sizeFree 33 = .ok (.imul, 1) := by decide +kernel
theorem dX6_sizeFree_34 : decode cX6_sizeFree 34 = .ok (.goto 4, 3) := by decide +kernel
theorem dX6_sizeFree_37 : decode cX6_sizeFree 37 = .ok (.iload_n 3, 1) := by decide +kernel
theorem dX6_sizeFree_38 : decode cX6_sizeFree 38 = .ok (.ireturn, 1) := by decide +kernel
theorem dX6_markFree_0 : decode cX6_markFree 0 = .ok (.aload_n 0, 1) := by decide +kernel
theorem dX6_markFree_1 : decode cX6_markFree 1 = .ok (.bipush 23, 2) := by decide +kernel
theorem dX6_markFree_3 : decode cX6_markFree 3 = .ok (.invokevirtual 213, 3) := by decide +kernel
theorem dX6_markFree_6 : decode cX6_markFree 6 = .ok (.aload_n 0, 1) := by decide +kernel
theorem dX6_markFree_7 : decode cX6_markFree 7 = .ok (.iload_n 1, 1) := by decide +kernel
theorem dX6_markFree_8 : decode cX6_markFree 8 = .ok (.invokevirtual 217, 3) := by decide +kernel
theorem dX6_markFree_11 : decode cX6_markFree 11 = .ok (.istore_n 3, 1) := by decide +kernel
theorem dX6_markFree_12 : decode cX6_markFree 12 = .ok (.iload_n 3, 1) := by decide +kernel
theorem dX6_markFree_13 : decode cX6_markFree 13 = .ok (.aload_n 0, 1) := by decide +kernel
theorem dX6_markFree_14 : decode cX6_markFree 14 = .ok (.iload_n 1, 1) := by decide +kernel
theorem dX6_markFree_15 : decode cX6_markFree 15 = .ok (.iload_n 2, 1) := by decide +kernel
theorem dX6_markFree_16 : decode cX6_markFree 16 = .ok (.invokevirtual 223, 3) := by decide +kernel
theorem dX6_markFree_19 : decode cX6_markFree 19 = .ok (.isub, 1) := by decide +kernel
theorem dX6_markFree_20 : decode cX6_markFree 20 = .ok (.ireturn, 1) := by decide +kernel
theorem dX6_sizeOwing_0 : decode cX6_sizeOwing 0 = .ok (.iload_n 2, 1) := by decide +kernel
theorem dX6_sizeOwing_1 : decode cX6_sizeOwing 1 = .ok (.iconst 3, 1) := by decide +kernel
theorem dX6_sizeOwing_2 : decode cX6_sizeOwing 2 = .ok (.if_icmp .ne 9, 3) := by decide +kernel
theorem dX6_sizeOwing_5 : decode cX6_sizeOwing 5 = .ok (.aload_n 0, 1) := by decide +kernel
theorem dX6_sizeOwing_6 : decode cX6_sizeOwing 6 = .ok (.bipush 12, 2) := by decide +kernel
theorem dX6_sizeOwing_8 : decode cX6_sizeOwing 8 = .ok (.invokevirtual 213, 3) := by decide +kernel
theorem dX6_sizeOwing_11 : decode cX6_sizeOwing 11 = .ok (.aload_n 0, 1) := by decide +kernel
theorem dX6_sizeOwing_12 : decode cX6_sizeOwing 12 = .ok (.bipush 11, 2) := by decide +kernel
theorem dX6_sizeOwing_14 : decode cX6_sizeOwing 14 = .ok (.invokevirtual 213, 3) := by decide +kernel
theorem dX6_sizeOwing_17 : decode cX6_sizeOwing 17 = .ok (.aload_n 0, 1) := by decide +kernel
theorem dX6_sizeOwing_18 : decode cX6_sizeOwing 18 = .ok (.iload_n 1, 1) := by decide +kernel
theorem dX6_sizeOwing_19 : decode cX6_sizeOwing 19 = .ok (.invokevirtual 220, 3) := by decide +kernel
theorem dX6_sizeOwing_22 : decode cX6_sizeOwing 22 = .ok (.istore_n 3, 1) := by decide +kernel
theorem dX6_sizeOwing_23 : decode cX6_sizeOwing 23 = .ok (.iload_n 3, 1) := by decide +kernel
theorem dX6_sizeOwing_24 : decode cX6_sizeOwing 24 = .ok (.aload_n 0, 1) := by decide +kernel
theorem dX6_sizeOwing_25 : decode cX6_sizeOwing 25 = .ok (.iload_n 1, 1) := by decide +kernel
theorem dX6_sizeOwing_26 : decode cX6_sizeOwing 26 = .ok (.iload_n 2, 1) := by decide +kernel
theorem dX6_sizeOwing_27 : decode cX6_sizeOwing 27 = .ok (.invokevirtual 227, 3) := by decide +kernel
theorem dX6_sizeOwing_30 : decode cX6_sizeOwing 30 = .ok (.iadd, 1) := by decide +kernel
theorem dX6_sizeOwing_31 : decode cX6_sizeOwing 31 = .ok (.istore 4, 2) := by decide +kernel
theorem dX6_sizeOwing_33 : decode cX6_sizeOwing 33 = .ok (.iload_n 2, 1) := by decide +kernel
theorem dX6_sizeOwing_34 : decode cX6_sizeOwing 34 = .ok (.iconst 3, 1) := by decide +kernel
theorem dX6_sizeOwing_35 : decode cX6_sizeOwing 35 = .ok (.if_icmp .ne 9, 3) := by decide +kernel
theorem dX6_sizeOwing_38 : decode cX6_sizeOwing 38 = .ok (.iload 4, 2) := by decide +kernel
theorem dX6_sizeOwing_40 : decode cX6_sizeOwing 40 = .ok (.ineg, 1) := by decide +kernel
theorem dX6_sizeOwing_41 : decode cX6_sizeOwing 41 = .ok (.goto 5, 3) := by decide +kernel
theorem dX6_sizeOwing_44 : decode cX6_sizeOwing 44 = .ok (.iload 4, 2) := by decide +kernel
theorem dX6_sizeOwing_46 : decode cX6_sizeOwing 46 = .ok (.ireturn, 1) := by decide +kernel
theorem dX6_ask_0 : decode cX6_ask 0 = .ok (.aload_n 0, 1) := by decide +kernel
theorem dX6_ask_1 : decode cX6_ask 1 = .ok (.iload_n 1, 1) := by decide +kernel
theorem dX6_ask_2 : decode cX6_ask 2 = .ok (.invokevirtual 148, 3) := by decide +kernel
theorem dX6_ask_5 : decode cX6_ask 5 = .ok (.ifCond .eq 13, 3) := by decide +kernel
theorem dX6_ask_8 : decode cX6_ask 8 = .ok (.iload_n 2, 1) := by decide +kernel
theorem dX6_ask_9 : decode cX6_ask 9 = .ok (.i2l, 1) := by decide +kernel
theorem dX6_ask_10 : decode cX6_ask 10 = .ok (.lconst 0, 1) := by decide +kernel
theorem dX6_ask_11 : decode cX6_ask 11 = .ok (.lconst 1, 1) := by decide +kernel
theorem dX6_ask_12 : decode cX6_ask 12 = .ok (.invokestatic 54, 3) := by decide +kernel
theorem dX6_ask_15 : decode cX6_ask 15 = .ok (.ifCond .ne 6, 3) := by decide +kernel
theorem dX6_ask_18 : decode cX6_ask 18 = .ok (.ldc 64, 2) := by decide +kernel
theorem dX6_ask_20 : decode cX6_ask 20 = .ok (.ireturn, 1) := by decide +kernel
theorem dX6_ask_21 : decode cX6_ask 21 = .ok (.aload_n 0, 1) := by decide +kernel
theorem dX6_ask_22 : decode cX6_ask 22 = .ok (.iconst 0, 1) := by decide +kernel
theorem dX6_ask_23 : decode cX6_ask 23 = .ok (.putfield 210, 3) := by decide +kernel
theorem dX6_ask_26 : decode cX6_ask 26 = .ok (.aload_n 0, 1) := by decide +kernel
theorem dX6_ask_27 : decode cX6_ask 27 = .ok (.iload_n 1, 1) := by decide +kernel
theorem dX6_ask_28 : decode cX6_ask 28 = .ok (.invokevirtual 205, 3) := by decide +kernel
theorem dX6_ask_31 : decode cX6_ask 31 = .ok (.istore_n 3, 1) := by decide +kernel
theorem dX6_ask_32 : decode cX6_ask 32 = .ok (.iload_n 2, 1) := by decide +kernel
theorem dX6_ask_33 : decode cX6_ask 33 = .ok (.ifCond .ne 26, 3) := by decide +kernel
theorem dX6_ask_36 : decode cX6_ask 36 = .ok (.iload_n 3, 1) := by decide +kernel
theorem dX6_ask_37 : decode cX6_ask 37 = .ok (.iconst 3, 1) := by decide +kernel
theorem dX6_ask_38 : decode cX6_ask 38 = .ok (.if_icmp .le 12, 3) := by decide +kernel
theorem dX6_ask_41 : decode cX6_ask 41 = .ok (.aload_n 0, 1) := by decide +kernel
theorem dX6_ask_42 : decode cX6_ask 42 = .ok (.iload_n 1, 1) := by decide +kernel
theorem dX6_ask_43 : decode cX6_ask 43 = .ok (.iload_n 3, 1) := by decide +kernel
theorem dX6_ask_44 : decode cX6_ask 44 = .ok (.invokevirtual 223, 3) := by decide +kernel
theorem dX6_ask_47 : decode cX6_ask 47 = .ok (.goto 32, 3) := by decide +kernel
theorem dX6_ask_50 : decode cX6_ask 50 = .ok (.aload_n 0, 1) := by decide +kernel
theorem dX6_ask_51 : decode cX6_ask 51 = .ok (.iload_n 1, 1) := by decide +kernel
theorem dX6_ask_52 : decode cX6_ask 52 = .ok (.iload_n 3, 1) := by decide +kernel
theorem dX6_ask_53 : decode cX6_ask 53 = .ok (.invokevirtual 230, 3) := by decide +kernel
theorem dX6_ask_56 : decode cX6_ask 56 = .ok (.goto 23, 3) := by decide +kernel
theorem dX6_ask_59 : decode cX6_ask 59 = .ok (.iload_n 3, 1) := by decide +kernel
theorem dX6_ask_60 : decode cX6_ask 60 = .ok (.iconst 3, 1) := by decide +kernel
theorem dX6_ask_61 : decode cX6_ask 61 = .ok (.if_icmp .le 12, 3) := by decide +kernel
theorem dX6_ask_64 : decode cX6_ask 64 = .ok (.aload_n 0, 1) := by decide +kernel
theorem dX6_ask_65 : decode cX6_ask 65 = .ok (.iload_n 1, 1) := by decide +kernel
theorem dX6_ask_66 : decode cX6_ask 66 = .ok (.iload_n 3, 1) := by decide +kernel
theorem dX6_ask_67 : decode cX6_ask 67 = .ok (.invokevirtual 233, 3) := by decide +kernel
theorem dX6_ask_70 : decode cX6_ask 70 = .ok (.goto 9, 3) := by decide +kernel
theorem dX6_ask_73 : decode cX6_ask 73 = .ok (.aload_n 0, 1) := by decide +kernel
theorem dX6_ask_74 : decode cX6_ask 74 = .ok (.iload_n 1, 1) := by decide +kernel
theorem dX6_ask_75 : decode cX6_ask 75 = .ok (.iload_n 3, 1) := by decide +kernel
theorem dX6_ask_76 : decode cX6_ask 76 = .ok (.invokevirtual 227, 3) := by decide +kernel
theorem dX6_ask_79 : decode cX6_ask 79 = .ok (.ireturn, 1) := by decide +kernel
section MA
variable {G : GG} {z : Nat} {σ : AH} {a0 a1 a2 a3 a4 a5 a6 a7 a8 a9 a10 a11 : Nat → Int32} {i0 i1 i2 i3 i4 i5 i6 i7 i8 i9 i10 i11 : Int32} {d : TS} {p tr : Nat} {bo : Nat → Int32}
theorem m_sizeLent (hN : sN d ≤ 7) (hp : p < sN d) (ht : tr + 1 ≤ 16) : Ct G yX6_sizeLent cX6_sizeLent 2 (some .int) 2 0 0 z (mH σ (encT d) a1 a2 a3 a4 a5 a6 a7 a8 a9 a10 bo i0 i1 i2 i3 i4 i5 i6 i7 i8 i9 i10 (nI tr)) [.ref 171, .int (nI p)] (some (.int (sC d p))) z (mH σ (encT d) a1 a2 a3 a4 a5 a6 a7 a8 a9 a10 (apB bo tr [10]) i0 i1 i2 i3 i4 i5 i6 i7 i8 i9 i10 (nI (tr + 1))) := by
  refine Ct.ofJ RX6 rfl [some (.ref 171), some (.int (nI p))] rfl (by decide) (by simp [Value.category]) ?_
  refine j_aload_n dX6_sizeLent_0 rfl rfl ?_
  refine j_bipush (nI 10) dX6_sizeLent_1 rfl ?_
  refine j_callV (m_leaves (nI 10) (by omega)) dX6_sizeLent_3 rfl mv_X6_213 mH_o rfl ⟨(Nat.le_of_ble_eq_true rfl), (Nat.le_of_ble_eq_true rfl)⟩ ⟨(Nat.le_of_ble_eq_true rfl), (Nat.le_of_ble_eq_true rfl)⟩ (Nat.le_of_ble_eq_true rfl) ?_
  refine j_aload_n dX6_sizeLent_6 rfl rfl ?_
  refine j_getf dX6_sizeLent_7 6 0 rfl (Nat.le_of_ble_eq_true rfl) fl_X6_7 in_6 mH_o rfl ?_
  refine j_iconst (nI 4) dX6_sizeLent_10 rfl ?_
  refine j_iload_n dX6_sizeLent_11 rfl rfl ?_
  first | refine j_iaddN dX6_sizeLent_12 ?_ | refine j_iadd dX6_sizeLent_12 ?_
  refine j_iald dX6_sizeLent_13 mH_a0 rfl (by omega) (by decide) ?_
  refine j_top (sC d p) (enc_c hN hp) ?_
  exact j_iret rfl dX6_sizeLent_14 rfl rfl (Nat.le_of_ble_eq_true rfl) (Nat.le_of_ble_eq_true rfl)
theorem m_markLent (ht : tr + 1 ≤ 16) : Ct G yX6_markLent cX6_markLent 2 (some .int) 2 0 0 z (mH σ (encT d) a1 a2 a3 a4 a5 a6 a7 a8 a9 a10 bo i0 i1 i2 i3 i4 i5 i6 i7 i8 i9 i10 (nI tr)) [.ref 171, .int (nI p)] (some (.int (nI p))) z (mH σ (encT d) a1 a2 a3 a4 a5 a6 a7 a8 a9 a10 (apB bo tr [20]) i0 i1 i2 i3 i4 i5 i6 i7 i8 i9 i10 (nI (tr + 1))) := by
  refine Ct.ofJ RX6 rfl [some (.ref 171), some (.int (nI p))] rfl (by decide) (by simp [Value.category]) ?_
  refine j_aload_n dX6_markLent_0 rfl rfl ?_
  refine j_bipush (nI 20) dX6_markLent_1 rfl ?_
  refine j_callV (m_leaves (nI 20) (by omega)) dX6_markLent_3 rfl mv_X6_213 mH_o rfl ⟨(Nat.le_of_ble_eq_true rfl), (Nat.le_of_ble_eq_true rfl)⟩ ⟨(Nat.le_of_ble_eq_true rfl), (Nat.le_of_ble_eq_true rfl)⟩ (Nat.le_of_ble_eq_true rfl) ?_
  refine j_iload_n dX6_markLent_6 rfl rfl ?_
  exact j_iret rfl dX6_markLent_7 rfl rfl (Nat.le_of_ble_eq_true rfl) (Nat.le_of_ble_eq_true rfl)

theorem m_markOwing_1 (hN : sN d ≤ 7) (hp : p < sN d) (ht : tr + 2 ≤ 16) : Ct G yX6_markOwing cX6_markOwing 4 (some .int) 3 0 0 z (mH σ (encT d) a1 a2 a3 a4 a5 a6 a7 a8 a9 a10 bo i0 i1 i2 i3 i4 i5 i6 i7 i8 i9 i10 (nI tr)) [.ref 171, .int (nI p), .int (nI 1)] (some (.int (nI p + dsum (sD d) (sN d) p))) z (mH σ (encT d) a1 a2 a3 a4 a5 a6 a7 a8 a9 a10 (apB bo tr [21, 20]) i0 i1 i2 i3 i4 i5 i6 i7 i8 i9 i10 (nI (tr + 2))) := by
  refine Ct.ofJ RX6 rfl [some (.ref 171), some (.int (nI p)), some (.int (nI 1)), none] rfl (by decide) (by simp [Value.category]) ?_
  refine j_iconst (nI 0) dX6_markOwing_0 rfl ?_
  refine j_istore_n dX6_markOwing_1 rfl (Nat.le_of_ble_eq_true rfl) rfl ?_
  refine j_iload_n dX6_markOwing_2 rfl rfl ?_
  refine j_iconst (nI 3) dX6_markOwing_3 rfl ?_
  refine j_icmp_neN 13 dX6_markOwing_4 (by decide) (by omega) (by omega) (fun b4 => ?_) (fun b4 => by exfalso; omega)
  refine j_iload_n dX6_markOwing_13 rfl rfl ?_
  refine j_iconst (nI 1) dX6_markOwing_14 rfl ?_
  refine j_icmp_leN 24 dX6_markOwing_15 (by decide) (by omega) (by omega) (fun b15 => ?_) (fun b15 => by exfalso; omega)
  refine j_aload_n dX6_markOwing_24 rfl rfl ?_
  refine j_bipush (nI 21) dX6_markOwing_25 rfl ?_
  refine j_callV (m_leaves (nI 21) (by omega)) dX6_markOwing_27 rfl mv_X6_213 mH_o rfl ⟨(Nat.le_of_ble_eq_true rfl), (Nat.le_of_ble_eq_true rfl)⟩ ⟨(Nat.le_of_ble_eq_true rfl), (Nat.le_of_ble_eq_true rfl)⟩ (Nat.le_of_ble_eq_true rfl) ?_
  refine j_aload_n dX6_markOwing_30 rfl rfl ?_
  refine j_iload_n dX6_markOwing_31 rfl rfl ?_
  refine j_callV (m_markLent (by omega)) dX6_markOwing_32 rfl mv_X6_217 mH_o rfl ⟨(Nat.le_of_ble_eq_true rfl), (Nat.le_of_ble_eq_true rfl)⟩ ⟨(Nat.le_of_ble_eq_true rfl), (Nat.le_of_ble_eq_true rfl)⟩ (Nat.le_of_ble_eq_true rfl) ?_
  refine j_aload_n dX6_markOwing_35 rfl rfl ?_
  refine j_getf dX6_markOwing_36 6 0 rfl (Nat.le_of_ble_eq_true rfl) fl_X6_7 in_6 mH_o rfl ?_
  refine j_iload_n dX6_markOwing_39 rfl rfl ?_
  refine j_callS (m_owedIn (d := d) mH_a0 hN hp) dX6_markOwing_40 rfl ms_X6_151 ⟨(Nat.le_of_ble_eq_true rfl), (Nat.le_of_ble_eq_true rfl)⟩ ⟨(Nat.le_of_ble_eq_true rfl), (Nat.le_of_ble_eq_true rfl)⟩ (Nat.le_of_ble_eq_true rfl) ?_
  refine j_iadd dX6_markOwing_43 ?_
  refine j_istore_n dX6_markOwing_44 rfl (Nat.le_of_ble_eq_true rfl) rfl ?_
  refine j_iload_n dX6_markOwing_45 rfl rfl ?_
  refine j_iload_n dX6_markOwing_46 rfl rfl ?_
  refine j_iconst (nI 1) dX6_markOwing_47 rfl ?_
  refine j_icmp_leN 57 dX6_markOwing_48 (by decide) (by omega) (by omega) (fun b48 => ?_) (fun b48 => by exfalso; omega)
  refine j_iconst (nI 0) dX6_markOwing_57 rfl ?_
  refine j_isub dX6_markOwing_58 ?_
  refine j_top (nI p + dsum (sD d) (sN d) p) (Int32.sub_zero _) ?_
  refine j_istore_n dX6_markOwing_59 rfl (Nat.le_of_ble_eq_true rfl) rfl ?_
  refine j_iload_n dX6_markOwing_60 rfl rfl ?_
  refine j_iconst (nI 3) dX6_markOwing_61 rfl ?_
  refine j_icmp_neN 71 dX6_markOwing_62 (by decide) (by omega) (by omega) (fun b62 => ?_) (fun b62 => by exfalso; omega)
  refine j_iload_n dX6_markOwing_71 rfl rfl ?_
  exact j_iret rfl dX6_markOwing_72 rfl rfl (Nat.le_of_ble_eq_true rfl) (Nat.le_of_ble_eq_true rfl)
theorem m_markOwing_2 (hN : sN d ≤ 7) (hp : p < sN d) (ht : tr + 3 ≤ 16) : Ct G yX6_markOwing cX6_markOwing 4 (some .int) 3 0 0 z (mH σ (encT d) a1 a2 a3 a4 a5 a6 a7 a8 a9 a10 bo i0 i1 i2 i3 i4 i5 i6 i7 i8 i9 i10 (nI tr)) [.ref 171, .int (nI p), .int (nI 2)] (some (.int (nI p + dsum (sD d) (sN d) p - nI 1000))) z (mH σ (encT d) a1 a2 a3 a4 a5 a6 a7 a8 a9 a10 (apB bo tr [22, 21, 20]) i0 i1 i2 i3 i4 i5 i6 i7 i8 i9 i10 (nI (tr + 3))) := by
  refine Ct.ofJ RX6 rfl [some (.ref 171), some (.int (nI p)), some (.int (nI 2)), none] rfl (by decide) (by simp [Value.category]) ?_
  refine j_iconst (nI 0) dX6_markOwing_0 rfl ?_
  refine j_istore_n dX6_markOwing_1 rfl (Nat.le_of_ble_eq_true rfl) rfl ?_
  refine j_iload_n dX6_markOwing_2 rfl rfl ?_
  refine j_iconst (nI 3) dX6_markOwing_3 rfl ?_
  refine j_icmp_neN 13 dX6_markOwing_4 (by decide) (by omega) (by omega) (fun b4 => ?_) (fun b4 => by exfalso; omega)
  refine j_iload_n dX6_markOwing_13 rfl rfl ?_
  refine j_iconst (nI 1) dX6_markOwing_14 rfl ?_
  refine j_icmp_leN 24 dX6_markOwing_15 (by decide) (by omega) (by omega) (fun b15 => by exfalso; omega) (fun b15 => ?_)
  refine j_aload_n dX6_markOwing_18 rfl rfl ?_
  refine j_bipush (nI 22) dX6_markOwing_19 rfl ?_
  refine j_callV (m_leaves (nI 22) (by omega)) dX6_markOwing_21 rfl mv_X6_213 mH_o rfl ⟨(Nat.le_of_ble_eq_true rfl), (Nat.le_of_ble_eq_true rfl)⟩ ⟨(Nat.le_of_ble_eq_true rfl), (Nat.le_of_ble_eq_true rfl)⟩ (Nat.le_of_ble_eq_true rfl) ?_
  refine j_aload_n dX6_markOwing_24 rfl rfl ?_
  refine j_bipush (nI 21) dX6_markOwing_25 rfl ?_
  refine j_callV (m_leaves (nI 21) (by omega)) dX6_markOwing_27 rfl mv_X6_213 mH_o rfl ⟨(Nat.le_of_ble_eq_true rfl), (Nat.le_of_ble_eq_true rfl)⟩ ⟨(Nat.le_of_ble_eq_true rfl), (Nat.le_of_ble_eq_true rfl)⟩ (Nat.le_of_ble_eq_true rfl) ?_
  refine j_aload_n dX6_markOwing_30 rfl rfl ?_
  refine j_iload_n dX6_markOwing_31 rfl rfl ?_
  refine j_callV (m_markLent (by omega)) dX6_markOwing_32 rfl mv_X6_217 mH_o rfl ⟨(Nat.le_of_ble_eq_true rfl), (Nat.le_of_ble_eq_true rfl)⟩ ⟨(Nat.le_of_ble_eq_true rfl), (Nat.le_of_ble_eq_true rfl)⟩ (Nat.le_of_ble_eq_true rfl) ?_
  refine j_aload_n dX6_markOwing_35 rfl rfl ?_
  refine j_getf dX6_markOwing_36 6 0 rfl (Nat.le_of_ble_eq_true rfl) fl_X6_7 in_6 mH_o rfl ?_
  refine j_iload_n dX6_markOwing_39 rfl rfl ?_
  refine j_callS (m_owedIn (d := d) mH_a0 hN hp) dX6_markOwing_40 rfl ms_X6_151 ⟨(Nat.le_of_ble_eq_true rfl), (Nat.le_of_ble_eq_true rfl)⟩ ⟨(Nat.le_of_ble_eq_true rfl), (Nat.le_of_ble_eq_true rfl)⟩ (Nat.le_of_ble_eq_true rfl) ?_
  refine j_iadd dX6_markOwing_43 ?_
  refine j_istore_n dX6_markOwing_44 rfl (Nat.le_of_ble_eq_true rfl) rfl ?_
  refine j_iload_n dX6_markOwing_45 rfl rfl ?_
  refine j_iload_n dX6_markOwing_46 rfl rfl ?_
  refine j_iconst (nI 1) dX6_markOwing_47 rfl ?_
  refine j_icmp_leN 57 dX6_markOwing_48 (by decide) (by omega) (by omega) (fun b48 => by exfalso; omega) (fun b48 => ?_)
  refine j_sipush (nI 1000) dX6_markOwing_51 rfl ?_
  refine j_goto 58 dX6_markOwing_54 (by decide) ?_
  refine j_isub dX6_markOwing_58 ?_
  refine j_istore_n dX6_markOwing_59 rfl (Nat.le_of_ble_eq_true rfl) rfl ?_
  refine j_iload_n dX6_markOwing_60 rfl rfl ?_
  refine j_iconst (nI 3) dX6_markOwing_61 rfl ?_
  refine j_icmp_neN 71 dX6_markOwing_62 (by decide) (by omega) (by omega) (fun b62 => ?_) (fun b62 => by exfalso; omega)
  refine j_iload_n dX6_markOwing_71 rfl rfl ?_
  exact j_iret rfl dX6_markOwing_72 rfl rfl (Nat.le_of_ble_eq_true rfl) (Nat.le_of_ble_eq_true rfl)
theorem m_markOwing_3 (hN : sN d ≤ 7) (hp : p < sN d) (ht : tr + 4 ≤ 16) : Ct G yX6_markOwing cX6_markOwing 4 (some .int) 3 0 0 z (mH σ (encT d) a1 a2 a3 a4 a5 a6 a7 a8 a9 a10 bo i0 i1 i2 i3 i4 i5 i6 i7 i8 i9 i10 (nI tr)) [.ref 171, .int (nI p), .int (nI 3)] (some (.int (nI 2 * (nI p + dsum (sD d) (sN d) p - nI 1000)))) z (mH σ (encT d) a1 a2 a3 a4 a5 a6 a7 a8 a9 a10 (apB bo tr [24, 22, 21, 20]) i0 i1 i2 i3 i4 i5 i6 i7 i8 i9 i10 (nI (tr + 4))) := by
  refine Ct.ofJ RX6 rfl [some (.ref 171), some (.int (nI p)), some (.int (nI 3)), none] rfl (by decide) (by simp [Value.category]) ?_
  refine j_iconst (nI 0) dX6_markOwing_0 rfl ?_
  refine j_istore_n dX6_markOwing_1 rfl (Nat.le_of_ble_eq_true rfl) rfl ?_
  refine j_iload_n dX6_markOwing_2 rfl rfl ?_
  refine j_iconst (nI 3) dX6_markOwing_3 rfl ?_
  refine j_icmp_neN 13 dX6_markOwing_4 (by decide) (by omega) (by omega) (fun b4 => by exfalso; omega) (fun b4 => ?_)
  refine j_aload_n dX6_markOwing_7 rfl rfl ?_
  refine j_bipush (nI 24) dX6_markOwing_8 rfl ?_
  refine j_callV (m_leaves (nI 24) (by omega)) dX6_markOwing_10 rfl mv_X6_213 mH_o rfl ⟨(Nat.le_of_ble_eq_true rfl), (Nat.le_of_ble_eq_true rfl)⟩ ⟨(Nat.le_of_ble_eq_true rfl), (Nat.le_of_ble_eq_true rfl)⟩ (Nat.le_of_ble_eq_true rfl) ?_
  refine j_iload_n dX6_markOwing_13 rfl rfl ?_
  refine j_iconst (nI 1) dX6_markOwing_14 rfl ?_
  refine j_icmp_leN 24 dX6_markOwing_15 (by decide) (by omega) (by omega) (fun b15 => by exfalso; omega) (fun b15 => ?_)
  refine j_aload_n dX6_markOwing_18 rfl rfl ?_
  refine j_bipush (nI 22) dX6_markOwing_19 rfl ?_
  refine j_callV (m_leaves (nI 22) (by omega)) dX6_markOwing_21 rfl mv_X6_213 mH_o rfl ⟨(Nat.le_of_ble_eq_true rfl), (Nat.le_of_ble_eq_true rfl)⟩ ⟨(Nat.le_of_ble_eq_true rfl), (Nat.le_of_ble_eq_true rfl)⟩ (Nat.le_of_ble_eq_true rfl) ?_
  refine j_aload_n dX6_markOwing_24 rfl rfl ?_
  refine j_bipush (nI 21) dX6_markOwing_25 rfl ?_
  refine j_callV (m_leaves (nI 21) (by omega)) dX6_markOwing_27 rfl mv_X6_213 mH_o rfl ⟨(Nat.le_of_ble_eq_true rfl), (Nat.le_of_ble_eq_true rfl)⟩ ⟨(Nat.le_of_ble_eq_true rfl), (Nat.le_of_ble_eq_true rfl)⟩ (Nat.le_of_ble_eq_true rfl) ?_
  refine j_aload_n dX6_markOwing_30 rfl rfl ?_
  refine j_iload_n dX6_markOwing_31 rfl rfl ?_
  refine j_callV (m_markLent (by omega)) dX6_markOwing_32 rfl mv_X6_217 mH_o rfl ⟨(Nat.le_of_ble_eq_true rfl), (Nat.le_of_ble_eq_true rfl)⟩ ⟨(Nat.le_of_ble_eq_true rfl), (Nat.le_of_ble_eq_true rfl)⟩ (Nat.le_of_ble_eq_true rfl) ?_
  refine j_aload_n dX6_markOwing_35 rfl rfl ?_
  refine j_getf dX6_markOwing_36 6 0 rfl (Nat.le_of_ble_eq_true rfl) fl_X6_7 in_6 mH_o rfl ?_
  refine j_iload_n dX6_markOwing_39 rfl rfl ?_
  refine j_callS (m_owedIn (d := d) mH_a0 hN hp) dX6_markOwing_40 rfl ms_X6_151 ⟨(Nat.le_of_ble_eq_true rfl), (Nat.le_of_ble_eq_true rfl)⟩ ⟨(Nat.le_of_ble_eq_true rfl), (Nat.le_of_ble_eq_true rfl)⟩ (Nat.le_of_ble_eq_true rfl) ?_
  refine j_iadd dX6_markOwing_43 ?_
  refine j_istore_n dX6_markOwing_44 rfl (Nat.le_of_ble_eq_true rfl) rfl ?_
  refine j_iload_n dX6_markOwing_45 rfl rfl ?_
  refine j_iload_n dX6_markOwing_46 rfl rfl ?_
  refine j_iconst (nI 1) dX6_markOwing_47 rfl ?_
  refine j_icmp_leN 57 dX6_markOwing_48 (by decide) (by omega) (by omega) (fun b48 => by exfalso; omega) (fun b48 => ?_)
  refine j_sipush (nI 1000) dX6_markOwing_51 rfl ?_
  refine j_goto 58 dX6_markOwing_54 (by decide) ?_
  refine j_isub dX6_markOwing_58 ?_
  refine j_istore_n dX6_markOwing_59 rfl (Nat.le_of_ble_eq_true rfl) rfl ?_
  refine j_iload_n dX6_markOwing_60 rfl rfl ?_
  refine j_iconst (nI 3) dX6_markOwing_61 rfl ?_
  refine j_icmp_neN 71 dX6_markOwing_62 (by decide) (by omega) (by omega) (fun b62 => by exfalso; omega) (fun b62 => ?_)
  refine j_iconst (nI 2) dX6_markOwing_65 rfl ?_
  refine j_iload_n dX6_markOwing_66 rfl rfl ?_
  refine j_imul dX6_markOwing_67 ?_
  refine j_goto 72 dX6_markOwing_68 (by decide) ?_
  exact j_iret rfl dX6_markOwing_72 rfl rfl (Nat.le_of_ble_eq_true rfl) (Nat.le_of_ble_eq_true rfl)
theorem m_sizeFree_4 (hN : sN d ≤ 7) (hp : p < sN d) (ht : tr + 2 ≤ 16) : Ct G yX6_sizeFree cX6_sizeFree 4 (some .int) 3 0 0 z (mH σ (encT d) a1 a2 a3 a4 a5 a6 a7 a8 a9 a10 bo i0 i1 i2 i3 i4 i5 i6 i7 i8 i9 i10 (nI tr)) [.ref 171, .int (nI p), .int (nI 4)] (some (.int (sC d p - nI 100))) z (mH σ (encT d) a1 a2 a3 a4 a5 a6 a7 a8 a9 a10 (apB bo tr [13, 10]) i0 i1 i2 i3 i4 i5 i6 i7 i8 i9 i10 (nI (tr + 2))) := by
  refine Ct.ofJ RX6 rfl [some (.ref 171), some (.int (nI p)), some (.int (nI 4)), none] rfl (by decide) (by simp [Value.category]) ?_
  refine j_iload_n dX6_sizeFree_0 rfl rfl ?_
  refine j_iconst (nI 5) dX6_sizeFree_1 rfl ?_
  refine j_icmp_neN 11 dX6_sizeFree_2 (by decide) (by omega) (by omega) (fun b2 => ?_) (fun b2 => by exfalso; omega)
  refine j_aload_n dX6_sizeFree_11 rfl rfl ?_
  refine j_bipush (nI 13) dX6_sizeFree_12 rfl ?_
  refine j_callV (m_leaves (nI 13) (by omega)) dX6_sizeFree_14 rfl mv_X6_213 mH_o rfl ⟨(Nat.le_of_ble_eq_true rfl), (Nat.le_of_ble_eq_true rfl)⟩ ⟨(Nat.le_of_ble_eq_true rfl), (Nat.le_of_ble_eq_true rfl)⟩ (Nat.le_of_ble_eq_true rfl) ?_
  refine j_aload_n dX6_sizeFree_17 rfl rfl ?_
  refine j_iload_n dX6_sizeFree_18 rfl rfl ?_
  refine j_callV (m_sizeLent hN hp (by omega)) dX6_sizeFree_19 rfl mv_X6_220 mH_o rfl ⟨(Nat.le_of_ble_eq_true rfl), (Nat.le_of_ble_eq_true rfl)⟩ ⟨(Nat.le_of_ble_eq_true rfl), (Nat.le_of_ble_eq_true rfl)⟩ (Nat.le_of_ble_eq_true rfl) ?_
  refine j_bipush (nI 100) dX6_sizeFree_22 rfl ?_
  refine j_isub dX6_sizeFree_24 ?_
  refine j_istore_n dX6_sizeFree_25 rfl (Nat.le_of_ble_eq_true rfl) rfl ?_
  refine j_iload_n dX6_sizeFree_26 rfl rfl ?_
  refine j_iconst (nI 5) dX6_sizeFree_27 rfl ?_
  refine j_icmp_neN 37 dX6_sizeFree_28 (by decide) (by omega) (by omega) (fun b28 => ?_) (fun b28 => by exfalso; omega)
  refine j_iload_n dX6_sizeFree_37 rfl rfl ?_
  exact j_iret rfl dX6_sizeFree_38 rfl rfl (Nat.le_of_ble_eq_true rfl) (Nat.le_of_ble_eq_true rfl)
theorem m_sizeFree_5 (hN : sN d ≤ 7) (hp : p < sN d) (ht : tr + 3 ≤ 16) : Ct G yX6_sizeFree cX6_sizeFree 4 (some .int) 3 0 0 z (mH σ (encT d) a1 a2 a3 a4 a5 a6 a7 a8 a9 a10 bo i0 i1 i2 i3 i4 i5 i6 i7 i8 i9 i10 (nI tr)) [.ref 171, .int (nI p), .int (nI 5)] (some (.int (nI 2 * (sC d p - nI 100)))) z (mH σ (encT d) a1 a2 a3 a4 a5 a6 a7 a8 a9 a10 (apB bo tr [14, 13, 10]) i0 i1 i2 i3 i4 i5 i6 i7 i8 i9 i10 (nI (tr + 3))) := by
  refine Ct.ofJ RX6 rfl [some (.ref 171), some (.int (nI p)), some (.int (nI 5)), none] rfl (by decide) (by simp [Value.category]) ?_
  refine j_iload_n dX6_sizeFree_0 rfl rfl ?_
  refine j_iconst (nI 5) dX6_sizeFree_1 rfl ?_
  refine j_icmp_neN 11 dX6_sizeFree_2 (by decide) (by omega) (by omega) (fun b2 => by exfalso; omega) (fun b2 => ?_)
  refine j_aload_n dX6_sizeFree_5 rfl rfl ?_
  refine j_bipush (nI 14) dX6_sizeFree_6 rfl ?_
  refine j_callV (m_leaves (nI 14) (by omega)) dX6_sizeFree_8 rfl mv_X6_213 mH_o rfl ⟨(Nat.le_of_ble_eq_true rfl), (Nat.le_of_ble_eq_true rfl)⟩ ⟨(Nat.le_of_ble_eq_true rfl), (Nat.le_of_ble_eq_true rfl)⟩ (Nat.le_of_ble_eq_true rfl) ?_
  refine j_aload_n dX6_sizeFree_11 rfl rfl ?_
  refine j_bipush (nI 13) dX6_sizeFree_12 rfl ?_
  refine j_callV (m_leaves (nI 13) (by omega)) dX6_sizeFree_14 rfl mv_X6_213 mH_o rfl ⟨(Nat.le_of_ble_eq_true rfl), (Nat.le_of_ble_eq_true rfl)⟩ ⟨(Nat.le_of_ble_eq_true rfl), (Nat.le_of_ble_eq_true rfl)⟩ (Nat.le_of_ble_eq_true rfl) ?_
  refine j_aload_n dX6_sizeFree_17 rfl rfl ?_
  refine j_iload_n dX6_sizeFree_18 rfl rfl ?_
  refine j_callV (m_sizeLent hN hp (by omega)) dX6_sizeFree_19 rfl mv_X6_220 mH_o rfl ⟨(Nat.le_of_ble_eq_true rfl), (Nat.le_of_ble_eq_true rfl)⟩ ⟨(Nat.le_of_ble_eq_true rfl), (Nat.le_of_ble_eq_true rfl)⟩ (Nat.le_of_ble_eq_true rfl) ?_
  refine j_bipush (nI 100) dX6_sizeFree_22 rfl ?_
  refine j_isub dX6_sizeFree_24 ?_
  refine j_istore_n dX6_sizeFree_25 rfl (Nat.le_of_ble_eq_true rfl) rfl ?_
  refine j_iload_n dX6_sizeFree_26 rfl rfl ?_
  refine j_iconst (nI 5) dX6_sizeFree_27 rfl ?_
  refine j_icmp_neN 37 dX6_sizeFree_28 (by decide) (by omega) (by omega) (fun b28 => by exfalso; omega) (fun b28 => ?_)
  refine j_iconst (nI 2) dX6_sizeFree_31 rfl ?_
  refine j_iload_n dX6_sizeFree_32 rfl rfl ?_
  refine j_imul dX6_sizeFree_33 ?_
  refine j_goto 38 dX6_sizeFree_34 (by decide) ?_
  exact j_iret rfl dX6_sizeFree_38 rfl rfl (Nat.le_of_ble_eq_true rfl) (Nat.le_of_ble_eq_true rfl)
theorem m_markFree_4 (hN : sN d ≤ 7) (hp : p < sN d) (ht : tr + 4 ≤ 16) : Ct G yX6_markFree cX6_markFree 4 (some .int) 4 0 0 z (mH σ (encT d) a1 a2 a3 a4 a5 a6 a7 a8 a9 a10 bo i0 i1 i2 i3 i4 i5 i6 i7 i8 i9 i10 (nI tr)) [.ref 171, .int (nI p), .int (nI 4)] (some (.int (nI p - (sC d p - nI 100)))) z (mH σ (encT d) a1 a2 a3 a4 a5 a6 a7 a8 a9 a10 (apB bo tr [23, 20, 13, 10]) i0 i1 i2 i3 i4 i5 i6 i7 i8 i9 i10 (nI (tr + 4))) := by
  refine Ct.ofJ RX6 rfl [some (.ref 171), some (.int (nI p)), some (.int (nI 4)), none] rfl (by decide) (by simp [Value.category]) ?_
  refine j_aload_n dX6_markFree_0 rfl rfl ?_
  refine j_bipush (nI 23) dX6_markFree_1 rfl ?_
  refine j_callV (m_leaves (nI 23) (by omega)) dX6_markFree_3 rfl mv_X6_213 mH_o rfl ⟨(Nat.le_of_ble_eq_true rfl), (Nat.le_of_ble_eq_true rfl)⟩ ⟨(Nat.le_of_ble_eq_true rfl), (Nat.le_of_ble_eq_true rfl)⟩ (Nat.le_of_ble_eq_true rfl) ?_
  refine j_aload_n dX6_markFree_6 rfl rfl ?_
  refine j_iload_n dX6_markFree_7 rfl rfl ?_
  refine j_callV (m_markLent (by omega)) dX6_markFree_8 rfl mv_X6_217 mH_o rfl ⟨(Nat.le_of_ble_eq_true rfl), (Nat.le_of_ble_eq_true rfl)⟩ ⟨(Nat.le_of_ble_eq_true rfl), (Nat.le_of_ble_eq_true rfl)⟩ (Nat.le_of_ble_eq_true rfl) ?_
  refine j_istore_n dX6_markFree_11 rfl (Nat.le_of_ble_eq_true rfl) rfl ?_
  refine j_iload_n dX6_markFree_12 rfl rfl ?_
  refine j_aload_n dX6_markFree_13 rfl rfl ?_
  refine j_iload_n dX6_markFree_14 rfl rfl ?_
  refine j_iload_n dX6_markFree_15 rfl rfl ?_
  refine j_callV (m_sizeFree_4 hN hp (by omega)) dX6_markFree_16 rfl mv_X6_223 mH_o rfl ⟨(Nat.le_of_ble_eq_true rfl), (Nat.le_of_ble_eq_true rfl)⟩ ⟨(Nat.le_of_ble_eq_true rfl), (Nat.le_of_ble_eq_true rfl)⟩ (Nat.le_of_ble_eq_true rfl) ?_
  refine j_isub dX6_markFree_19 ?_
  exact j_iret rfl dX6_markFree_20 rfl rfl (Nat.le_of_ble_eq_true rfl) (Nat.le_of_ble_eq_true rfl)
theorem m_markFree_5 (hN : sN d ≤ 7) (hp : p < sN d) (ht : tr + 5 ≤ 16) : Ct G yX6_markFree cX6_markFree 4 (some .int) 4 0 0 z (mH σ (encT d) a1 a2 a3 a4 a5 a6 a7 a8 a9 a10 bo i0 i1 i2 i3 i4 i5 i6 i7 i8 i9 i10 (nI tr)) [.ref 171, .int (nI p), .int (nI 5)] (some (.int (nI p - (nI 2 * (sC d p - nI 100))))) z (mH σ (encT d) a1 a2 a3 a4 a5 a6 a7 a8 a9 a10 (apB bo tr [23, 20, 14, 13, 10]) i0 i1 i2 i3 i4 i5 i6 i7 i8 i9 i10 (nI (tr + 5))) := by
  refine Ct.ofJ RX6 rfl [some (.ref 171), some (.int (nI p)), some (.int (nI 5)), none] rfl (by decide) (by simp [Value.category]) ?_
  refine j_aload_n dX6_markFree_0 rfl rfl ?_
  refine j_bipush (nI 23) dX6_markFree_1 rfl ?_
  refine j_callV (m_leaves (nI 23) (by omega)) dX6_markFree_3 rfl mv_X6_213 mH_o rfl ⟨(Nat.le_of_ble_eq_true rfl), (Nat.le_of_ble_eq_true rfl)⟩ ⟨(Nat.le_of_ble_eq_true rfl), (Nat.le_of_ble_eq_true rfl)⟩ (Nat.le_of_ble_eq_true rfl) ?_
  refine j_aload_n dX6_markFree_6 rfl rfl ?_
  refine j_iload_n dX6_markFree_7 rfl rfl ?_
  refine j_callV (m_markLent (by omega)) dX6_markFree_8 rfl mv_X6_217 mH_o rfl ⟨(Nat.le_of_ble_eq_true rfl), (Nat.le_of_ble_eq_true rfl)⟩ ⟨(Nat.le_of_ble_eq_true rfl), (Nat.le_of_ble_eq_true rfl)⟩ (Nat.le_of_ble_eq_true rfl) ?_
  refine j_istore_n dX6_markFree_11 rfl (Nat.le_of_ble_eq_true rfl) rfl ?_
  refine j_iload_n dX6_markFree_12 rfl rfl ?_
  refine j_aload_n dX6_markFree_13 rfl rfl ?_
  refine j_iload_n dX6_markFree_14 rfl rfl ?_
  refine j_iload_n dX6_markFree_15 rfl rfl ?_
  refine j_callV (m_sizeFree_5 hN hp (by omega)) dX6_markFree_16 rfl mv_X6_223 mH_o rfl ⟨(Nat.le_of_ble_eq_true rfl), (Nat.le_of_ble_eq_true rfl)⟩ ⟨(Nat.le_of_ble_eq_true rfl), (Nat.le_of_ble_eq_true rfl)⟩ (Nat.le_of_ble_eq_true rfl) ?_
  refine j_isub dX6_markFree_19 ?_
  exact j_iret rfl dX6_markFree_20 rfl rfl (Nat.le_of_ble_eq_true rfl) (Nat.le_of_ble_eq_true rfl)
theorem m_sizeOwing_1 (hN : sN d ≤ 7) (hp : p < sN d) (ht : tr + 4 ≤ 16) : Ct G yX6_sizeOwing cX6_sizeOwing 5 (some .int) 4 0 0 z (mH σ (encT d) a1 a2 a3 a4 a5 a6 a7 a8 a9 a10 bo i0 i1 i2 i3 i4 i5 i6 i7 i8 i9 i10 (nI tr)) [.ref 171, .int (nI p), .int (nI 1)] (some (.int (sC d p + (nI p + dsum (sD d) (sN d) p)))) z (mH σ (encT d) a1 a2 a3 a4 a5 a6 a7 a8 a9 a10 (apB bo tr [11, 10, 21, 20]) i0 i1 i2 i3 i4 i5 i6 i7 i8 i9 i10 (nI (tr + 4))) := by
  refine Ct.ofJ RX6 rfl [some (.ref 171), some (.int (nI p)), some (.int (nI 1)), none, none] rfl (by decide) (by simp [Value.category]) ?_
  refine j_iload_n dX6_sizeOwing_0 rfl rfl ?_
  refine j_iconst (nI 3) dX6_sizeOwing_1 rfl ?_
  refine j_icmp_neN 11 dX6_sizeOwing_2 (by decide) (by omega) (by omega) (fun b2 => ?_) (fun b2 => by exfalso; omega)
  refine j_aload_n dX6_sizeOwing_11 rfl rfl ?_
  refine j_bipush (nI 11) dX6_sizeOwing_12 rfl ?_
  refine j_callV (m_leaves (nI 11) (by omega)) dX6_sizeOwing_14 rfl mv_X6_213 mH_o rfl ⟨(Nat.le_of_ble_eq_true rfl), (Nat.le_of_ble_eq_true rfl)⟩ ⟨(Nat.le_of_ble_eq_true rfl), (Nat.le_of_ble_eq_true rfl)⟩ (Nat.le_of_ble_eq_true rfl) ?_
  refine j_aload_n dX6_sizeOwing_17 rfl rfl ?_
  refine j_iload_n dX6_sizeOwing_18 rfl rfl ?_
  refine j_callV (m_sizeLent hN hp (by omega)) dX6_sizeOwing_19 rfl mv_X6_220 mH_o rfl ⟨(Nat.le_of_ble_eq_true rfl), (Nat.le_of_ble_eq_true rfl)⟩ ⟨(Nat.le_of_ble_eq_true rfl), (Nat.le_of_ble_eq_true rfl)⟩ (Nat.le_of_ble_eq_true rfl) ?_
  refine j_istore_n dX6_sizeOwing_22 rfl (Nat.le_of_ble_eq_true rfl) rfl ?_
  refine j_iload_n dX6_sizeOwing_23 rfl rfl ?_
  refine j_aload_n dX6_sizeOwing_24 rfl rfl ?_
  refine j_iload_n dX6_sizeOwing_25 rfl rfl ?_
  refine j_iload_n dX6_sizeOwing_26 rfl rfl ?_
  refine j_callV (m_markOwing_1 hN hp (by omega)) dX6_sizeOwing_27 rfl mv_X6_227 mH_o rfl ⟨(Nat.le_of_ble_eq_true rfl), (Nat.le_of_ble_eq_true rfl)⟩ ⟨(Nat.le_of_ble_eq_true rfl), (Nat.le_of_ble_eq_true rfl)⟩ (Nat.le_of_ble_eq_true rfl) ?_
  refine j_iadd dX6_sizeOwing_30 ?_
  refine j_istore dX6_sizeOwing_31 (Nat.le_of_ble_eq_true rfl) rfl ?_
  refine j_iload_n dX6_sizeOwing_33 rfl rfl ?_
  refine j_iconst (nI 3) dX6_sizeOwing_34 rfl ?_
  refine j_icmp_neN 44 dX6_sizeOwing_35 (by decide) (by omega) (by omega) (fun b35 => ?_) (fun b35 => by exfalso; omega)
  refine j_iload dX6_sizeOwing_44 rfl ?_
  exact j_iret rfl dX6_sizeOwing_46 rfl rfl (Nat.le_of_ble_eq_true rfl) (Nat.le_of_ble_eq_true rfl)
theorem m_sizeOwing_2 (hN : sN d ≤ 7) (hp : p < sN d) (ht : tr + 5 ≤ 16) : Ct G yX6_sizeOwing cX6_sizeOwing 5 (some .int) 4 0 0 z (mH σ (encT d) a1 a2 a3 a4 a5 a6 a7 a8 a9 a10 bo i0 i1 i2 i3 i4 i5 i6 i7 i8 i9 i10 (nI tr)) [.ref 171, .int (nI p), .int (nI 2)] (some (.int (sC d p + (nI p + dsum (sD d) (sN d) p - nI 1000)))) z (mH σ (encT d) a1 a2 a3 a4 a5 a6 a7 a8 a9 a10 (apB bo tr [11, 10, 22, 21, 20]) i0 i1 i2 i3 i4 i5 i6 i7 i8 i9 i10 (nI (tr + 5))) := by
  refine Ct.ofJ RX6 rfl [some (.ref 171), some (.int (nI p)), some (.int (nI 2)), none, none] rfl (by decide) (by simp [Value.category]) ?_
  refine j_iload_n dX6_sizeOwing_0 rfl rfl ?_
  refine j_iconst (nI 3) dX6_sizeOwing_1 rfl ?_
  refine j_icmp_neN 11 dX6_sizeOwing_2 (by decide) (by omega) (by omega) (fun b2 => ?_) (fun b2 => by exfalso; omega)
  refine j_aload_n dX6_sizeOwing_11 rfl rfl ?_
  refine j_bipush (nI 11) dX6_sizeOwing_12 rfl ?_
  refine j_callV (m_leaves (nI 11) (by omega)) dX6_sizeOwing_14 rfl mv_X6_213 mH_o rfl ⟨(Nat.le_of_ble_eq_true rfl), (Nat.le_of_ble_eq_true rfl)⟩ ⟨(Nat.le_of_ble_eq_true rfl), (Nat.le_of_ble_eq_true rfl)⟩ (Nat.le_of_ble_eq_true rfl) ?_
  refine j_aload_n dX6_sizeOwing_17 rfl rfl ?_
  refine j_iload_n dX6_sizeOwing_18 rfl rfl ?_
  refine j_callV (m_sizeLent hN hp (by omega)) dX6_sizeOwing_19 rfl mv_X6_220 mH_o rfl ⟨(Nat.le_of_ble_eq_true rfl), (Nat.le_of_ble_eq_true rfl)⟩ ⟨(Nat.le_of_ble_eq_true rfl), (Nat.le_of_ble_eq_true rfl)⟩ (Nat.le_of_ble_eq_true rfl) ?_
  refine j_istore_n dX6_sizeOwing_22 rfl (Nat.le_of_ble_eq_true rfl) rfl ?_
  refine j_iload_n dX6_sizeOwing_23 rfl rfl ?_
  refine j_aload_n dX6_sizeOwing_24 rfl rfl ?_
  refine j_iload_n dX6_sizeOwing_25 rfl rfl ?_
  refine j_iload_n dX6_sizeOwing_26 rfl rfl ?_
  refine j_callV (m_markOwing_2 hN hp (by omega)) dX6_sizeOwing_27 rfl mv_X6_227 mH_o rfl ⟨(Nat.le_of_ble_eq_true rfl), (Nat.le_of_ble_eq_true rfl)⟩ ⟨(Nat.le_of_ble_eq_true rfl), (Nat.le_of_ble_eq_true rfl)⟩ (Nat.le_of_ble_eq_true rfl) ?_
  refine j_iadd dX6_sizeOwing_30 ?_
  refine j_istore dX6_sizeOwing_31 (Nat.le_of_ble_eq_true rfl) rfl ?_
  refine j_iload_n dX6_sizeOwing_33 rfl rfl ?_
  refine j_iconst (nI 3) dX6_sizeOwing_34 rfl ?_
  refine j_icmp_neN 44 dX6_sizeOwing_35 (by decide) (by omega) (by omega) (fun b35 => ?_) (fun b35 => by exfalso; omega)
  refine j_iload dX6_sizeOwing_44 rfl ?_
  exact j_iret rfl dX6_sizeOwing_46 rfl rfl (Nat.le_of_ble_eq_true rfl) (Nat.le_of_ble_eq_true rfl)
theorem m_sizeOwing_3 (hN : sN d ≤ 7) (hp : p < sN d) (ht : tr + 7 ≤ 16) : Ct G yX6_sizeOwing cX6_sizeOwing 5 (some .int) 4 0 0 z (mH σ (encT d) a1 a2 a3 a4 a5 a6 a7 a8 a9 a10 bo i0 i1 i2 i3 i4 i5 i6 i7 i8 i9 i10 (nI tr)) [.ref 171, .int (nI p), .int (nI 3)] (some (.int (-(sC d p + (nI 2 * (nI p + dsum (sD d) (sN d) p - nI 1000)))))) z (mH σ (encT d) a1 a2 a3 a4 a5 a6 a7 a8 a9 a10 (apB bo tr [12, 11, 10, 24, 22, 21, 20]) i0 i1 i2 i3 i4 i5 i6 i7 i8 i9 i10 (nI (tr + 7))) := by
  refine Ct.ofJ RX6 rfl [some (.ref 171), some (.int (nI p)), some (.int (nI 3)), none, none] rfl (by decide) (by simp [Value.category]) ?_
  refine j_iload_n dX6_sizeOwing_0 rfl rfl ?_
  refine j_iconst (nI 3) dX6_sizeOwing_1 rfl ?_
  refine j_icmp_neN 11 dX6_sizeOwing_2 (by decide) (by omega) (by omega) (fun b2 => by exfalso; omega) (fun b2 => ?_)
  refine j_aload_n dX6_sizeOwing_5 rfl rfl ?_
  refine j_bipush (nI 12) dX6_sizeOwing_6 rfl ?_
  refine j_callV (m_leaves (nI 12) (by omega)) dX6_sizeOwing_8 rfl mv_X6_213 mH_o rfl ⟨(Nat.le_of_ble_eq_true rfl), (Nat.le_of_ble_eq_true rfl)⟩ ⟨(Nat.le_of_ble_eq_true rfl), (Nat.le_of_ble_eq_true rfl)⟩ (Nat.le_of_ble_eq_true rfl) ?_
  refine j_aload_n dX6_sizeOwing_11 rfl rfl ?_
  refine j_bipush (nI 11) dX6_sizeOwing_12 rfl ?_
  refine j_callV (m_leaves (nI 11) (by omega)) dX6_sizeOwing_14 rfl mv_X6_213 mH_o rfl ⟨(Nat.le_of_ble_eq_true rfl), (Nat.le_of_ble_eq_true rfl)⟩ ⟨(Nat.le_of_ble_eq_true rfl), (Nat.le_of_ble_eq_true rfl)⟩ (Nat.le_of_ble_eq_true rfl) ?_
  refine j_aload_n dX6_sizeOwing_17 rfl rfl ?_
  refine j_iload_n dX6_sizeOwing_18 rfl rfl ?_
  refine j_callV (m_sizeLent hN hp (by omega)) dX6_sizeOwing_19 rfl mv_X6_220 mH_o rfl ⟨(Nat.le_of_ble_eq_true rfl), (Nat.le_of_ble_eq_true rfl)⟩ ⟨(Nat.le_of_ble_eq_true rfl), (Nat.le_of_ble_eq_true rfl)⟩ (Nat.le_of_ble_eq_true rfl) ?_
  refine j_istore_n dX6_sizeOwing_22 rfl (Nat.le_of_ble_eq_true rfl) rfl ?_
  refine j_iload_n dX6_sizeOwing_23 rfl rfl ?_
  refine j_aload_n dX6_sizeOwing_24 rfl rfl ?_
  refine j_iload_n dX6_sizeOwing_25 rfl rfl ?_
  refine j_iload_n dX6_sizeOwing_26 rfl rfl ?_
  refine j_callV (m_markOwing_3 hN hp (by omega)) dX6_sizeOwing_27 rfl mv_X6_227 mH_o rfl ⟨(Nat.le_of_ble_eq_true rfl), (Nat.le_of_ble_eq_true rfl)⟩ ⟨(Nat.le_of_ble_eq_true rfl), (Nat.le_of_ble_eq_true rfl)⟩ (Nat.le_of_ble_eq_true rfl) ?_
  refine j_iadd dX6_sizeOwing_30 ?_
  refine j_istore dX6_sizeOwing_31 (Nat.le_of_ble_eq_true rfl) rfl ?_
  refine j_iload_n dX6_sizeOwing_33 rfl rfl ?_
  refine j_iconst (nI 3) dX6_sizeOwing_34 rfl ?_
  refine j_icmp_neN 44 dX6_sizeOwing_35 (by decide) (by omega) (by omega) (fun b35 => by exfalso; omega) (fun b35 => ?_)
  refine j_iload dX6_sizeOwing_38 rfl ?_
  refine j_ineg dX6_sizeOwing_40 ?_
  refine j_goto 46 dX6_sizeOwing_41 (by decide) ?_
  exact j_iret rfl dX6_sizeOwing_46 rfl rfl (Nat.le_of_ble_eq_true rfl) (Nat.le_of_ble_eq_true rfl)
theorem m_ask_bad {n : Nat} (h0 : a0 2 = nI n) (hn : n ≤ 7) (x w : Int32) (h : ¬ npI x n = 0 ∨ w < 0 ∨ nI 1 < w) : Ct G yX6_ask cX6_ask 4 (some .int) 9 0 0 z (mH σ a0 a1 a2 a3 a4 a5 a6 a7 a8 a9 a10 bo i0 i1 i2 i3 i4 i5 i6 i7 i8 i9 i10 i11) [.ref 171, .int x, .int w] (some (.int (-1000001))) z (mH σ a0 a1 a2 a3 a4 a5 a6 a7 a8 a9 a10 bo i0 i1 i2 i3 i4 i5 i6 i7 i8 i9 i10 i11) := by
  refine Ct.ofJ RX6 rfl [some (.ref 171), some (.int x), some (.int w), none] rfl (by decide) (by simp [Value.category]) ?_
  refine j_aload_n dX6_ask_0 rfl rfl ?_
  refine j_iload_n dX6_ask_1 rfl rfl ?_
  refine j_callV (m_one h0 hn x) dX6_ask_2 rfl mv_X6_148 mH_o rfl ⟨(Nat.le_of_ble_eq_true rfl), (Nat.le_of_ble_eq_true rfl)⟩ ⟨(Nat.le_of_ble_eq_true rfl), (Nat.le_of_ble_eq_true rfl)⟩ (Nat.le_of_ble_eq_true rfl) ?_
  refine j_if_eq 18 dX6_ask_5 (by decide) (fun b5 => ?_) (fun b5 => ?_)
  · refine j_ldc (-1000001) dX6_ask_18 kc_X6_64 ?_
    exact j_iret rfl dX6_ask_20 rfl rfl (Nat.le_of_ble_eq_true rfl) (Nat.le_of_ble_eq_true rfl)
  · refine j_iload_n dX6_ask_8 rfl rfl ?_
    refine j_i2l dX6_ask_9 ?_
    refine j_lconst (0) dX6_ask_10 rfl ?_
    refine j_lconst (1) dX6_ask_11 rfl ?_
    refine j_callS (m_in3 w (nI 0) (nI 1) rfl rfl) dX6_ask_12 rfl ms_X6_54 ⟨(Nat.le_of_ble_eq_true rfl), (Nat.le_of_ble_eq_true rfl)⟩ ⟨(Nat.le_of_ble_eq_true rfl), (Nat.le_of_ble_eq_true rfl)⟩ (Nat.le_of_ble_eq_true rfl) ?_
    refine j_if_ne 21 dX6_ask_15 (by decide) (fun b15 => ?_) (fun b15 => ?_)
    · exact absurd h (fun q => q.elim (fun w => w (oneI_ne b5)) (fun q => q.elim (inI_ne b15).1 (fun u => absurd (inI_ne b15).2 (Int32.not_le.mpr u))))
    · refine j_ldc (-1000001) dX6_ask_18 kc_X6_64 ?_
      exact j_iret rfl dX6_ask_20 rfl rfl (Nat.le_of_ble_eq_true rfl) (Nat.le_of_ble_eq_true rfl)
theorem m_ask_1_0 (hN : sN d ≤ 7) (hp : p < sN d) (hu : 1 ≤ sU d) (hu2 : sU d ≤ 20) (hz : ¬ 0 < dsum (sD d) (sN d) p → dsum (sD d) (sN d) p = 0) (hk : kindI (sD d) (sF d) (sN d) (sU d) p = nI 1) : Ct G yX6_ask cX6_ask 4 (some .int) 9 0 0 z (mH σ (encT d) a1 a2 a3 a4 a5 a6 a7 a8 a9 a10 bo i0 i1 i2 i3 i4 i5 i6 i7 i8 i9 i10 i11) [.ref 171, .int (nI p), .int (nI 0)] (some (.int (sC d p + (nI p + dsum (sD d) (sN d) p)))) z (mH σ (encT d) a1 a2 a3 a4 a5 a6 a7 a8 a9 a10 (apB bo 0 [11, 10, 21, 20]) i0 i1 i2 i3 i4 i5 i6 i7 i8 i9 i10 (nI 4)) := by
  refine Ct.ofJ RX6 rfl [some (.ref 171), some (.int (nI p)), some (.int (nI 0)), none] rfl (by decide) (by simp [Value.category]) ?_
  refine j_aload_n dX6_ask_0 rfl rfl ?_
  refine j_iload_n dX6_ask_1 rfl rfl ?_
  refine j_callV (m_one enc_n hN _) dX6_ask_2 rfl mv_X6_148 mH_o rfl ⟨(Nat.le_of_ble_eq_true rfl), (Nat.le_of_ble_eq_true rfl)⟩ ⟨(Nat.le_of_ble_eq_true rfl), (Nat.le_of_ble_eq_true rfl)⟩ (Nat.le_of_ble_eq_true rfl) ?_
  refine j_top (nI 1) (oneI_k hp hN) ?_
  refine j_if_eq 18 dX6_ask_5 (by decide) (fun h => absurd h (by decide)) (fun _ => ?_)
  refine j_iload_n dX6_ask_8 rfl rfl ?_
  refine j_i2l dX6_ask_9 ?_
  refine j_lconst (0) dX6_ask_10 rfl ?_
  refine j_lconst (1) dX6_ask_11 rfl ?_
  refine j_callS (m_in3 (nI 0) (nI 0) (nI 1) rfl rfl) dX6_ask_12 rfl ms_X6_54 ⟨(Nat.le_of_ble_eq_true rfl), (Nat.le_of_ble_eq_true rfl)⟩ ⟨(Nat.le_of_ble_eq_true rfl), (Nat.le_of_ble_eq_true rfl)⟩ (Nat.le_of_ble_eq_true rfl) ?_
  refine j_top (nI 1) (inI_N (by omega) (by omega) (by omega)) ?_
  refine j_if_ne 21 dX6_ask_15 (by decide) (fun _ => ?_) (fun h => absurd h (by decide))
  refine j_aload_n dX6_ask_21 rfl rfl ?_
  refine j_iconst (nI 0) dX6_ask_22 rfl ?_
  refine j_putf dX6_ask_23 6 23 rfl (Nat.le_of_ble_eq_true rfl) fl_X6_210 in_6 tyX6 tyX6_ok nmX6 rfl rfl mH_o (Nat.le_of_ble_eq_true rfl) _ mH_p11 ?_
  refine j_aload_n dX6_ask_26 rfl rfl ?_
  refine j_iload_n dX6_ask_27 rfl rfl ?_
  refine j_callV (m_kindOf hN hp hu hu2 hz) dX6_ask_28 rfl mv_X6_205 mH_o rfl ⟨(Nat.le_of_ble_eq_true rfl), (Nat.le_of_ble_eq_true rfl)⟩ ⟨(Nat.le_of_ble_eq_true rfl), (Nat.le_of_ble_eq_true rfl)⟩ (Nat.le_of_ble_eq_true rfl) ?_
  refine j_top (nI 1) hk ?_
  refine j_istore_n dX6_ask_31 rfl (Nat.le_of_ble_eq_true rfl) rfl ?_
  refine j_iload_n dX6_ask_32 rfl rfl ?_
  refine j_top (nI 0) rfl ?_
  refine j_if_ne 59 dX6_ask_33 (by decide) (fun h => absurd rfl h) (fun _ => ?_)
  refine j_iload_n dX6_ask_36 rfl rfl ?_
  refine j_iconst (nI 3) dX6_ask_37 rfl ?_
  refine j_icmp_leN 50 dX6_ask_38 (by decide) (by omega) (by omega) (fun b38 => ?_) (fun b38 => by exfalso; omega)
  refine j_aload_n dX6_ask_50 rfl rfl ?_
  refine j_iload_n dX6_ask_51 rfl rfl ?_
  refine j_iload_n dX6_ask_52 rfl rfl ?_
  refine j_callV (m_sizeOwing_1 (tr := 0) hN hp (by omega)) dX6_ask_53 rfl mv_X6_230 mH_o rfl ⟨(Nat.le_of_ble_eq_true rfl), (Nat.le_of_ble_eq_true rfl)⟩ ⟨(Nat.le_of_ble_eq_true rfl), (Nat.le_of_ble_eq_true rfl)⟩ (Nat.le_of_ble_eq_true rfl) ?_
  refine j_goto 79 dX6_ask_56 (by decide) ?_
  exact j_iret rfl dX6_ask_79 rfl rfl (Nat.le_of_ble_eq_true rfl) (Nat.le_of_ble_eq_true rfl)
theorem m_ask_2_0 (hN : sN d ≤ 7) (hp : p < sN d) (hu : 1 ≤ sU d) (hu2 : sU d ≤ 20) (hz : ¬ 0 < dsum (sD d) (sN d) p → dsum (sD d) (sN d) p = 0) (hk : kindI (sD d) (sF d) (sN d) (sU d) p = nI 2) : Ct G yX6_ask cX6_ask 4 (some .int) 9 0 0 z (mH σ (encT d) a1 a2 a3 a4 a5 a6 a7 a8 a9 a10 bo i0 i1 i2 i3 i4 i5 i6 i7 i8 i9 i10 i11) [.ref 171, .int (nI p), .int (nI 0)] (some (.int (sC d p + (nI p + dsum (sD d) (sN d) p - nI 1000)))) z (mH σ (encT d) a1 a2 a3 a4 a5 a6 a7 a8 a9 a10 (apB bo 0 [11, 10, 22, 21, 20]) i0 i1 i2 i3 i4 i5 i6 i7 i8 i9 i10 (nI 5)) := by
  refine Ct.ofJ RX6 rfl [some (.ref 171), some (.int (nI p)), some (.int (nI 0)), none] rfl (by decide) (by simp [Value.category]) ?_
  refine j_aload_n dX6_ask_0 rfl rfl ?_
  refine j_iload_n dX6_ask_1 rfl rfl ?_
  refine j_callV (m_one enc_n hN _) dX6_ask_2 rfl mv_X6_148 mH_o rfl ⟨(Nat.le_of_ble_eq_true rfl), (Nat.le_of_ble_eq_true rfl)⟩ ⟨(Nat.le_of_ble_eq_true rfl), (Nat.le_of_ble_eq_true rfl)⟩ (Nat.le_of_ble_eq_true rfl) ?_
  refine j_top (nI 1) (oneI_k hp hN) ?_
  refine j_if_eq 18 dX6_ask_5 (by decide) (fun h => absurd h (by decide)) (fun _ => ?_)
  refine j_iload_n dX6_ask_8 rfl rfl ?_
  refine j_i2l dX6_ask_9 ?_
  refine j_lconst (0) dX6_ask_10 rfl ?_
  refine j_lconst (1) dX6_ask_11 rfl ?_
  refine j_callS (m_in3 (nI 0) (nI 0) (nI 1) rfl rfl) dX6_ask_12 rfl ms_X6_54 ⟨(Nat.le_of_ble_eq_true rfl), (Nat.le_of_ble_eq_true rfl)⟩ ⟨(Nat.le_of_ble_eq_true rfl), (Nat.le_of_ble_eq_true rfl)⟩ (Nat.le_of_ble_eq_true rfl) ?_
  refine j_top (nI 1) (inI_N (by omega) (by omega) (by omega)) ?_
  refine j_if_ne 21 dX6_ask_15 (by decide) (fun _ => ?_) (fun h => absurd h (by decide))
  refine j_aload_n dX6_ask_21 rfl rfl ?_
  refine j_iconst (nI 0) dX6_ask_22 rfl ?_
  refine j_putf dX6_ask_23 6 23 rfl (Nat.le_of_ble_eq_true rfl) fl_X6_210 in_6 tyX6 tyX6_ok nmX6 rfl rfl mH_o (Nat.le_of_ble_eq_true rfl) _ mH_p11 ?_
  refine j_aload_n dX6_ask_26 rfl rfl ?_
  refine j_iload_n dX6_ask_27 rfl rfl ?_
  refine j_callV (m_kindOf hN hp hu hu2 hz) dX6_ask_28 rfl mv_X6_205 mH_o rfl ⟨(Nat.le_of_ble_eq_true rfl), (Nat.le_of_ble_eq_true rfl)⟩ ⟨(Nat.le_of_ble_eq_true rfl), (Nat.le_of_ble_eq_true rfl)⟩ (Nat.le_of_ble_eq_true rfl) ?_
  refine j_top (nI 2) hk ?_
  refine j_istore_n dX6_ask_31 rfl (Nat.le_of_ble_eq_true rfl) rfl ?_
  refine j_iload_n dX6_ask_32 rfl rfl ?_
  refine j_top (nI 0) rfl ?_
  refine j_if_ne 59 dX6_ask_33 (by decide) (fun h => absurd rfl h) (fun _ => ?_)
  refine j_iload_n dX6_ask_36 rfl rfl ?_
  refine j_iconst (nI 3) dX6_ask_37 rfl ?_
  refine j_icmp_leN 50 dX6_ask_38 (by decide) (by omega) (by omega) (fun b38 => ?_) (fun b38 => by exfalso; omega)
  refine j_aload_n dX6_ask_50 rfl rfl ?_
  refine j_iload_n dX6_ask_51 rfl rfl ?_
  refine j_iload_n dX6_ask_52 rfl rfl ?_
  refine j_callV (m_sizeOwing_2 (tr := 0) hN hp (by omega)) dX6_ask_53 rfl mv_X6_230 mH_o rfl ⟨(Nat.le_of_ble_eq_true rfl), (Nat.le_of_ble_eq_true rfl)⟩ ⟨(Nat.le_of_ble_eq_true rfl), (Nat.le_of_ble_eq_true rfl)⟩ (Nat.le_of_ble_eq_true rfl) ?_
  refine j_goto 79 dX6_ask_56 (by decide) ?_
  exact j_iret rfl dX6_ask_79 rfl rfl (Nat.le_of_ble_eq_true rfl) (Nat.le_of_ble_eq_true rfl)
theorem m_ask_3_0 (hN : sN d ≤ 7) (hp : p < sN d) (hu : 1 ≤ sU d) (hu2 : sU d ≤ 20) (hz : ¬ 0 < dsum (sD d) (sN d) p → dsum (sD d) (sN d) p = 0) (hk : kindI (sD d) (sF d) (sN d) (sU d) p = nI 3) : Ct G yX6_ask cX6_ask 4 (some .int) 9 0 0 z (mH σ (encT d) a1 a2 a3 a4 a5 a6 a7 a8 a9 a10 bo i0 i1 i2 i3 i4 i5 i6 i7 i8 i9 i10 i11) [.ref 171, .int (nI p), .int (nI 0)] (some (.int (-(sC d p + (nI 2 * (nI p + dsum (sD d) (sN d) p - nI 1000)))))) z (mH σ (encT d) a1 a2 a3 a4 a5 a6 a7 a8 a9 a10 (apB bo 0 [12, 11, 10, 24, 22, 21, 20]) i0 i1 i2 i3 i4 i5 i6 i7 i8 i9 i10 (nI 7)) := by
  refine Ct.ofJ RX6 rfl [some (.ref 171), some (.int (nI p)), some (.int (nI 0)), none] rfl (by decide) (by simp [Value.category]) ?_
  refine j_aload_n dX6_ask_0 rfl rfl ?_
  refine j_iload_n dX6_ask_1 rfl rfl ?_
  refine j_callV (m_one enc_n hN _) dX6_ask_2 rfl mv_X6_148 mH_o rfl ⟨(Nat.le_of_ble_eq_true rfl), (Nat.le_of_ble_eq_true rfl)⟩ ⟨(Nat.le_of_ble_eq_true rfl), (Nat.le_of_ble_eq_true rfl)⟩ (Nat.le_of_ble_eq_true rfl) ?_
  refine j_top (nI 1) (oneI_k hp hN) ?_
  refine j_if_eq 18 dX6_ask_5 (by decide) (fun h => absurd h (by decide)) (fun _ => ?_)
  refine j_iload_n dX6_ask_8 rfl rfl ?_
  refine j_i2l dX6_ask_9 ?_
  refine j_lconst (0) dX6_ask_10 rfl ?_
  refine j_lconst (1) dX6_ask_11 rfl ?_
  refine j_callS (m_in3 (nI 0) (nI 0) (nI 1) rfl rfl) dX6_ask_12 rfl ms_X6_54 ⟨(Nat.le_of_ble_eq_true rfl), (Nat.le_of_ble_eq_true rfl)⟩ ⟨(Nat.le_of_ble_eq_true rfl), (Nat.le_of_ble_eq_true rfl)⟩ (Nat.le_of_ble_eq_true rfl) ?_
  refine j_top (nI 1) (inI_N (by omega) (by omega) (by omega)) ?_
  refine j_if_ne 21 dX6_ask_15 (by decide) (fun _ => ?_) (fun h => absurd h (by decide))
  refine j_aload_n dX6_ask_21 rfl rfl ?_
  refine j_iconst (nI 0) dX6_ask_22 rfl ?_
  refine j_putf dX6_ask_23 6 23 rfl (Nat.le_of_ble_eq_true rfl) fl_X6_210 in_6 tyX6 tyX6_ok nmX6 rfl rfl mH_o (Nat.le_of_ble_eq_true rfl) _ mH_p11 ?_
  refine j_aload_n dX6_ask_26 rfl rfl ?_
  refine j_iload_n dX6_ask_27 rfl rfl ?_
  refine j_callV (m_kindOf hN hp hu hu2 hz) dX6_ask_28 rfl mv_X6_205 mH_o rfl ⟨(Nat.le_of_ble_eq_true rfl), (Nat.le_of_ble_eq_true rfl)⟩ ⟨(Nat.le_of_ble_eq_true rfl), (Nat.le_of_ble_eq_true rfl)⟩ (Nat.le_of_ble_eq_true rfl) ?_
  refine j_top (nI 3) hk ?_
  refine j_istore_n dX6_ask_31 rfl (Nat.le_of_ble_eq_true rfl) rfl ?_
  refine j_iload_n dX6_ask_32 rfl rfl ?_
  refine j_top (nI 0) rfl ?_
  refine j_if_ne 59 dX6_ask_33 (by decide) (fun h => absurd rfl h) (fun _ => ?_)
  refine j_iload_n dX6_ask_36 rfl rfl ?_
  refine j_iconst (nI 3) dX6_ask_37 rfl ?_
  refine j_icmp_leN 50 dX6_ask_38 (by decide) (by omega) (by omega) (fun b38 => ?_) (fun b38 => by exfalso; omega)
  refine j_aload_n dX6_ask_50 rfl rfl ?_
  refine j_iload_n dX6_ask_51 rfl rfl ?_
  refine j_iload_n dX6_ask_52 rfl rfl ?_
  refine j_callV (m_sizeOwing_3 (tr := 0) hN hp (by omega)) dX6_ask_53 rfl mv_X6_230 mH_o rfl ⟨(Nat.le_of_ble_eq_true rfl), (Nat.le_of_ble_eq_true rfl)⟩ ⟨(Nat.le_of_ble_eq_true rfl), (Nat.le_of_ble_eq_true rfl)⟩ (Nat.le_of_ble_eq_true rfl) ?_
  refine j_goto 79 dX6_ask_56 (by decide) ?_
  exact j_iret rfl dX6_ask_79 rfl rfl (Nat.le_of_ble_eq_true rfl) (Nat.le_of_ble_eq_true rfl)
theorem m_ask_4_0 (hN : sN d ≤ 7) (hp : p < sN d) (hu : 1 ≤ sU d) (hu2 : sU d ≤ 20) (hz : ¬ 0 < dsum (sD d) (sN d) p → dsum (sD d) (sN d) p = 0) (hk : kindI (sD d) (sF d) (sN d) (sU d) p = nI 4) : Ct G yX6_ask cX6_ask 4 (some .int) 9 0 0 z (mH σ (encT d) a1 a2 a3 a4 a5 a6 a7 a8 a9 a10 bo i0 i1 i2 i3 i4 i5 i6 i7 i8 i9 i10 i11) [.ref 171, .int (nI p), .int (nI 0)] (some (.int (sC d p - nI 100))) z (mH σ (encT d) a1 a2 a3 a4 a5 a6 a7 a8 a9 a10 (apB bo 0 [13, 10]) i0 i1 i2 i3 i4 i5 i6 i7 i8 i9 i10 (nI 2)) := by
  refine Ct.ofJ RX6 rfl [some (.ref 171), some (.int (nI p)), some (.int (nI 0)), none] rfl (by decide) (by simp [Value.category]) ?_
  refine j_aload_n dX6_ask_0 rfl rfl ?_
  refine j_iload_n dX6_ask_1 rfl rfl ?_
  refine j_callV (m_one enc_n hN _) dX6_ask_2 rfl mv_X6_148 mH_o rfl ⟨(Nat.le_of_ble_eq_true rfl), (Nat.le_of_ble_eq_true rfl)⟩ ⟨(Nat.le_of_ble_eq_true rfl), (Nat.le_of_ble_eq_true rfl)⟩ (Nat.le_of_ble_eq_true rfl) ?_
  refine j_top (nI 1) (oneI_k hp hN) ?_
  refine j_if_eq 18 dX6_ask_5 (by decide) (fun h => absurd h (by decide)) (fun _ => ?_)
  refine j_iload_n dX6_ask_8 rfl rfl ?_
  refine j_i2l dX6_ask_9 ?_
  refine j_lconst (0) dX6_ask_10 rfl ?_
  refine j_lconst (1) dX6_ask_11 rfl ?_
  refine j_callS (m_in3 (nI 0) (nI 0) (nI 1) rfl rfl) dX6_ask_12 rfl ms_X6_54 ⟨(Nat.le_of_ble_eq_true rfl), (Nat.le_of_ble_eq_true rfl)⟩ ⟨(Nat.le_of_ble_eq_true rfl), (Nat.le_of_ble_eq_true rfl)⟩ (Nat.le_of_ble_eq_true rfl) ?_
  refine j_top (nI 1) (inI_N (by omega) (by omega) (by omega)) ?_
  refine j_if_ne 21 dX6_ask_15 (by decide) (fun _ => ?_) (fun h => absurd h (by decide))
  refine j_aload_n dX6_ask_21 rfl rfl ?_
  refine j_iconst (nI 0) dX6_ask_22 rfl ?_
  refine j_putf dX6_ask_23 6 23 rfl (Nat.le_of_ble_eq_true rfl) fl_X6_210 in_6 tyX6 tyX6_ok nmX6 rfl rfl mH_o (Nat.le_of_ble_eq_true rfl) _ mH_p11 ?_
  refine j_aload_n dX6_ask_26 rfl rfl ?_
  refine j_iload_n dX6_ask_27 rfl rfl ?_
  refine j_callV (m_kindOf hN hp hu hu2 hz) dX6_ask_28 rfl mv_X6_205 mH_o rfl ⟨(Nat.le_of_ble_eq_true rfl), (Nat.le_of_ble_eq_true rfl)⟩ ⟨(Nat.le_of_ble_eq_true rfl), (Nat.le_of_ble_eq_true rfl)⟩ (Nat.le_of_ble_eq_true rfl) ?_
  refine j_top (nI 4) hk ?_
  refine j_istore_n dX6_ask_31 rfl (Nat.le_of_ble_eq_true rfl) rfl ?_
  refine j_iload_n dX6_ask_32 rfl rfl ?_
  refine j_top (nI 0) rfl ?_
  refine j_if_ne 59 dX6_ask_33 (by decide) (fun h => absurd rfl h) (fun _ => ?_)
  refine j_iload_n dX6_ask_36 rfl rfl ?_
  refine j_iconst (nI 3) dX6_ask_37 rfl ?_
  refine j_icmp_leN 50 dX6_ask_38 (by decide) (by omega) (by omega) (fun b38 => by exfalso; omega) (fun b38 => ?_)
  refine j_aload_n dX6_ask_41 rfl rfl ?_
  refine j_iload_n dX6_ask_42 rfl rfl ?_
  refine j_iload_n dX6_ask_43 rfl rfl ?_
  refine j_callV (m_sizeFree_4 (tr := 0) hN hp (by omega)) dX6_ask_44 rfl mv_X6_223 mH_o rfl ⟨(Nat.le_of_ble_eq_true rfl), (Nat.le_of_ble_eq_true rfl)⟩ ⟨(Nat.le_of_ble_eq_true rfl), (Nat.le_of_ble_eq_true rfl)⟩ (Nat.le_of_ble_eq_true rfl) ?_
  refine j_goto 79 dX6_ask_47 (by decide) ?_
  exact j_iret rfl dX6_ask_79 rfl rfl (Nat.le_of_ble_eq_true rfl) (Nat.le_of_ble_eq_true rfl)
theorem m_ask_5_0 (hN : sN d ≤ 7) (hp : p < sN d) (hu : 1 ≤ sU d) (hu2 : sU d ≤ 20) (hz : ¬ 0 < dsum (sD d) (sN d) p → dsum (sD d) (sN d) p = 0) (hk : kindI (sD d) (sF d) (sN d) (sU d) p = nI 5) : Ct G yX6_ask cX6_ask 4 (some .int) 9 0 0 z (mH σ (encT d) a1 a2 a3 a4 a5 a6 a7 a8 a9 a10 bo i0 i1 i2 i3 i4 i5 i6 i7 i8 i9 i10 i11) [.ref 171, .int (nI p), .int (nI 0)] (some (.int (nI 2 * (sC d p - nI 100)))) z (mH σ (encT d) a1 a2 a3 a4 a5 a6 a7 a8 a9 a10 (apB bo 0 [14, 13, 10]) i0 i1 i2 i3 i4 i5 i6 i7 i8 i9 i10 (nI 3)) := by
  refine Ct.ofJ RX6 rfl [some (.ref 171), some (.int (nI p)), some (.int (nI 0)), none] rfl (by decide) (by simp [Value.category]) ?_
  refine j_aload_n dX6_ask_0 rfl rfl ?_
  refine j_iload_n dX6_ask_1 rfl rfl ?_
  refine j_callV (m_one enc_n hN _) dX6_ask_2 rfl mv_X6_148 mH_o rfl ⟨(Nat.le_of_ble_eq_true rfl), (Nat.le_of_ble_eq_true rfl)⟩ ⟨(Nat.le_of_ble_eq_true rfl), (Nat.le_of_ble_eq_true rfl)⟩ (Nat.le_of_ble_eq_true rfl) ?_
  refine j_top (nI 1) (oneI_k hp hN) ?_
  refine j_if_eq 18 dX6_ask_5 (by decide) (fun h => absurd h (by decide)) (fun _ => ?_)
  refine j_iload_n dX6_ask_8 rfl rfl ?_
  refine j_i2l dX6_ask_9 ?_
  refine j_lconst (0) dX6_ask_10 rfl ?_
  refine j_lconst (1) dX6_ask_11 rfl ?_
  refine j_callS (m_in3 (nI 0) (nI 0) (nI 1) rfl rfl) dX6_ask_12 rfl ms_X6_54 ⟨(Nat.le_of_ble_eq_true rfl), (Nat.le_of_ble_eq_true rfl)⟩ ⟨(Nat.le_of_ble_eq_true rfl), (Nat.le_of_ble_eq_true rfl)⟩ (Nat.le_of_ble_eq_true rfl) ?_
  refine j_top (nI 1) (inI_N (by omega) (by omega) (by omega)) ?_
  refine j_if_ne 21 dX6_ask_15 (by decide) (fun _ => ?_) (fun h => absurd h (by decide))
  refine j_aload_n dX6_ask_21 rfl rfl ?_
  refine j_iconst (nI 0) dX6_ask_22 rfl ?_
  refine j_putf dX6_ask_23 6 23 rfl (Nat.le_of_ble_eq_true rfl) fl_X6_210 in_6 tyX6 tyX6_ok nmX6 rfl rfl mH_o (Nat.le_of_ble_eq_true rfl) _ mH_p11 ?_
  refine j_aload_n dX6_ask_26 rfl rfl ?_
  refine j_iload_n dX6_ask_27 rfl rfl ?_
  refine j_callV (m_kindOf hN hp hu hu2 hz) dX6_ask_28 rfl mv_X6_205 mH_o rfl ⟨(Nat.le_of_ble_eq_true rfl), (Nat.le_of_ble_eq_true rfl)⟩ ⟨(Nat.le_of_ble_eq_true rfl), (Nat.le_of_ble_eq_true rfl)⟩ (Nat.le_of_ble_eq_true rfl) ?_
  refine j_top (nI 5) hk ?_
  refine j_istore_n dX6_ask_31 rfl (Nat.le_of_ble_eq_true rfl) rfl ?_
  refine j_iload_n dX6_ask_32 rfl rfl ?_
  refine j_top (nI 0) rfl ?_
  refine j_if_ne 59 dX6_ask_33 (by decide) (fun h => absurd rfl h) (fun _ => ?_)
  refine j_iload_n dX6_ask_36 rfl rfl ?_
  refine j_iconst (nI 3) dX6_ask_37 rfl ?_
  refine j_icmp_leN 50 dX6_ask_38 (by decide) (by omega) (by omega) (fun b38 => by exfalso; omega) (fun b38 => ?_)
  refine j_aload_n dX6_ask_41 rfl rfl ?_
  refine j_iload_n dX6_ask_42 rfl rfl ?_
  refine j_iload_n dX6_ask_43 rfl rfl ?_
  refine j_callV (m_sizeFree_5 (tr := 0) hN hp (by omega)) dX6_ask_44 rfl mv_X6_223 mH_o rfl ⟨(Nat.le_of_ble_eq_true rfl), (Nat.le_of_ble_eq_true rfl)⟩ ⟨(Nat.le_of_ble_eq_true rfl), (Nat.le_of_ble_eq_true rfl)⟩ (Nat.le_of_ble_eq_true rfl) ?_
  refine j_goto 79 dX6_ask_47 (by decide) ?_
  exact j_iret rfl dX6_ask_79 rfl rfl (Nat.le_of_ble_eq_true rfl) (Nat.le_of_ble_eq_true rfl)
theorem m_ask_1_1 (hN : sN d ≤ 7) (hp : p < sN d) (hu : 1 ≤ sU d) (hu2 : sU d ≤ 20) (hz : ¬ 0 < dsum (sD d) (sN d) p → dsum (sD d) (sN d) p = 0) (hk : kindI (sD d) (sF d) (sN d) (sU d) p = nI 1) : Ct G yX6_ask cX6_ask 4 (some .int) 9 0 0 z (mH σ (encT d) a1 a2 a3 a4 a5 a6 a7 a8 a9 a10 bo i0 i1 i2 i3 i4 i5 i6 i7 i8 i9 i10 i11) [.ref 171, .int (nI p), .int (nI 1)] (some (.int (nI p + dsum (sD d) (sN d) p))) z (mH σ (encT d) a1 a2 a3 a4 a5 a6 a7 a8 a9 a10 (apB bo 0 [21, 20]) i0 i1 i2 i3 i4 i5 i6 i7 i8 i9 i10 (nI 2)) := by
  refine Ct.ofJ RX6 rfl [some (.ref 171), some (.int (nI p)), some (.int (nI 1)), none] rfl (by decide) (by simp [Value.category]) ?_
  refine j_aload_n dX6_ask_0 rfl rfl ?_
  refine j_iload_n dX6_ask_1 rfl rfl ?_
  refine j_callV (m_one enc_n hN _) dX6_ask_2 rfl mv_X6_148 mH_o rfl ⟨(Nat.le_of_ble_eq_true rfl), (Nat.le_of_ble_eq_true rfl)⟩ ⟨(Nat.le_of_ble_eq_true rfl), (Nat.le_of_ble_eq_true rfl)⟩ (Nat.le_of_ble_eq_true rfl) ?_
  refine j_top (nI 1) (oneI_k hp hN) ?_
  refine j_if_eq 18 dX6_ask_5 (by decide) (fun h => absurd h (by decide)) (fun _ => ?_)
  refine j_iload_n dX6_ask_8 rfl rfl ?_
  refine j_i2l dX6_ask_9 ?_
  refine j_lconst (0) dX6_ask_10 rfl ?_
  refine j_lconst (1) dX6_ask_11 rfl ?_
  refine j_callS (m_in3 (nI 1) (nI 0) (nI 1) rfl rfl) dX6_ask_12 rfl ms_X6_54 ⟨(Nat.le_of_ble_eq_true rfl), (Nat.le_of_ble_eq_true rfl)⟩ ⟨(Nat.le_of_ble_eq_true rfl), (Nat.le_of_ble_eq_true rfl)⟩ (Nat.le_of_ble_eq_true rfl) ?_
  refine j_top (nI 1) (inI_N (by omega) (by omega) (by omega)) ?_
  refine j_if_ne 21 dX6_ask_15 (by decide) (fun _ => ?_) (fun h => absurd h (by decide))
  refine j_aload_n dX6_ask_21 rfl rfl ?_
  refine j_iconst (nI 0) dX6_ask_22 rfl ?_
  refine j_putf dX6_ask_23 6 23 rfl (Nat.le_of_ble_eq_true rfl) fl_X6_210 in_6 tyX6 tyX6_ok nmX6 rfl rfl mH_o (Nat.le_of_ble_eq_true rfl) _ mH_p11 ?_
  refine j_aload_n dX6_ask_26 rfl rfl ?_
  refine j_iload_n dX6_ask_27 rfl rfl ?_
  refine j_callV (m_kindOf hN hp hu hu2 hz) dX6_ask_28 rfl mv_X6_205 mH_o rfl ⟨(Nat.le_of_ble_eq_true rfl), (Nat.le_of_ble_eq_true rfl)⟩ ⟨(Nat.le_of_ble_eq_true rfl), (Nat.le_of_ble_eq_true rfl)⟩ (Nat.le_of_ble_eq_true rfl) ?_
  refine j_top (nI 1) hk ?_
  refine j_istore_n dX6_ask_31 rfl (Nat.le_of_ble_eq_true rfl) rfl ?_
  refine j_iload_n dX6_ask_32 rfl rfl ?_
  refine j_top (nI 1) rfl ?_
  refine j_if_ne 59 dX6_ask_33 (by decide) (fun _ => ?_) (fun h => absurd h (by decide))
  refine j_iload_n dX6_ask_59 rfl rfl ?_
  refine j_iconst (nI 3) dX6_ask_60 rfl ?_
  refine j_icmp_leN 73 dX6_ask_61 (by decide) (by omega) (by omega) (fun b61 => ?_) (fun b61 => by exfalso; omega)
  refine j_aload_n dX6_ask_73 rfl rfl ?_
  refine j_iload_n dX6_ask_74 rfl rfl ?_
  refine j_iload_n dX6_ask_75 rfl rfl ?_
  refine j_callV (m_markOwing_1 (tr := 0) hN hp (by omega)) dX6_ask_76 rfl mv_X6_227 mH_o rfl ⟨(Nat.le_of_ble_eq_true rfl), (Nat.le_of_ble_eq_true rfl)⟩ ⟨(Nat.le_of_ble_eq_true rfl), (Nat.le_of_ble_eq_true rfl)⟩ (Nat.le_of_ble_eq_true rfl) ?_
  exact j_iret rfl dX6_ask_79 rfl rfl (Nat.le_of_ble_eq_true rfl) (Nat.le_of_ble_eq_true rfl)
theorem m_ask_2_1 (hN : sN d ≤ 7) (hp : p < sN d) (hu : 1 ≤ sU d) (hu2 : sU d ≤ 20) (hz : ¬ 0 < dsum (sD d) (sN d) p → dsum (sD d) (sN d) p = 0) (hk : kindI (sD d) (sF d) (sN d) (sU d) p = nI 2) : Ct G yX6_ask cX6_ask 4 (some .int) 9 0 0 z (mH σ (encT d) a1 a2 a3 a4 a5 a6 a7 a8 a9 a10 bo i0 i1 i2 i3 i4 i5 i6 i7 i8 i9 i10 i11) [.ref 171, .int (nI p), .int (nI 1)] (some (.int (nI p + dsum (sD d) (sN d) p - nI 1000))) z (mH σ (encT d) a1 a2 a3 a4 a5 a6 a7 a8 a9 a10 (apB bo 0 [22, 21, 20]) i0 i1 i2 i3 i4 i5 i6 i7 i8 i9 i10 (nI 3)) := by
  refine Ct.ofJ RX6 rfl [some (.ref 171), some (.int (nI p)), some (.int (nI 1)), none] rfl (by decide) (by simp [Value.category]) ?_
  refine j_aload_n dX6_ask_0 rfl rfl ?_
  refine j_iload_n dX6_ask_1 rfl rfl ?_
  refine j_callV (m_one enc_n hN _) dX6_ask_2 rfl mv_X6_148 mH_o rfl ⟨(Nat.le_of_ble_eq_true rfl), (Nat.le_of_ble_eq_true rfl)⟩ ⟨(Nat.le_of_ble_eq_true rfl), (Nat.le_of_ble_eq_true rfl)⟩ (Nat.le_of_ble_eq_true rfl) ?_
  refine j_top (nI 1) (oneI_k hp hN) ?_
  refine j_if_eq 18 dX6_ask_5 (by decide) (fun h => absurd h (by decide)) (fun _ => ?_)
  refine j_iload_n dX6_ask_8 rfl rfl ?_
  refine j_i2l dX6_ask_9 ?_
  refine j_lconst (0) dX6_ask_10 rfl ?_
  refine j_lconst (1) dX6_ask_11 rfl ?_
  refine j_callS (m_in3 (nI 1) (nI 0) (nI 1) rfl rfl) dX6_ask_12 rfl ms_X6_54 ⟨(Nat.le_of_ble_eq_true rfl), (Nat.le_of_ble_eq_true rfl)⟩ ⟨(Nat.le_of_ble_eq_true rfl), (Nat.le_of_ble_eq_true rfl)⟩ (Nat.le_of_ble_eq_true rfl) ?_
  refine j_top (nI 1) (inI_N (by omega) (by omega) (by omega)) ?_
  refine j_if_ne 21 dX6_ask_15 (by decide) (fun _ => ?_) (fun h => absurd h (by decide))
  refine j_aload_n dX6_ask_21 rfl rfl ?_
  refine j_iconst (nI 0) dX6_ask_22 rfl ?_
  refine j_putf dX6_ask_23 6 23 rfl (Nat.le_of_ble_eq_true rfl) fl_X6_210 in_6 tyX6 tyX6_ok nmX6 rfl rfl mH_o (Nat.le_of_ble_eq_true rfl) _ mH_p11 ?_
  refine j_aload_n dX6_ask_26 rfl rfl ?_
  refine j_iload_n dX6_ask_27 rfl rfl ?_
  refine j_callV (m_kindOf hN hp hu hu2 hz) dX6_ask_28 rfl mv_X6_205 mH_o rfl ⟨(Nat.le_of_ble_eq_true rfl), (Nat.le_of_ble_eq_true rfl)⟩ ⟨(Nat.le_of_ble_eq_true rfl), (Nat.le_of_ble_eq_true rfl)⟩ (Nat.le_of_ble_eq_true rfl) ?_
  refine j_top (nI 2) hk ?_
  refine j_istore_n dX6_ask_31 rfl (Nat.le_of_ble_eq_true rfl) rfl ?_
  refine j_iload_n dX6_ask_32 rfl rfl ?_
  refine j_top (nI 1) rfl ?_
  refine j_if_ne 59 dX6_ask_33 (by decide) (fun _ => ?_) (fun h => absurd h (by decide))
  refine j_iload_n dX6_ask_59 rfl rfl ?_
  refine j_iconst (nI 3) dX6_ask_60 rfl ?_
  refine j_icmp_leN 73 dX6_ask_61 (by decide) (by omega) (by omega) (fun b61 => ?_) (fun b61 => by exfalso; omega)
  refine j_aload_n dX6_ask_73 rfl rfl ?_
  refine j_iload_n dX6_ask_74 rfl rfl ?_
  refine j_iload_n dX6_ask_75 rfl rfl ?_
  refine j_callV (m_markOwing_2 (tr := 0) hN hp (by omega)) dX6_ask_76 rfl mv_X6_227 mH_o rfl ⟨(Nat.le_of_ble_eq_true rfl), (Nat.le_of_ble_eq_true rfl)⟩ ⟨(Nat.le_of_ble_eq_true rfl), (Nat.le_of_ble_eq_true rfl)⟩ (Nat.le_of_ble_eq_true rfl) ?_
  exact j_iret rfl dX6_ask_79 rfl rfl (Nat.le_of_ble_eq_true rfl) (Nat.le_of_ble_eq_true rfl)
theorem m_ask_3_1 (hN : sN d ≤ 7) (hp : p < sN d) (hu : 1 ≤ sU d) (hu2 : sU d ≤ 20) (hz : ¬ 0 < dsum (sD d) (sN d) p → dsum (sD d) (sN d) p = 0) (hk : kindI (sD d) (sF d) (sN d) (sU d) p = nI 3) : Ct G yX6_ask cX6_ask 4 (some .int) 9 0 0 z (mH σ (encT d) a1 a2 a3 a4 a5 a6 a7 a8 a9 a10 bo i0 i1 i2 i3 i4 i5 i6 i7 i8 i9 i10 i11) [.ref 171, .int (nI p), .int (nI 1)] (some (.int (nI 2 * (nI p + dsum (sD d) (sN d) p - nI 1000)))) z (mH σ (encT d) a1 a2 a3 a4 a5 a6 a7 a8 a9 a10 (apB bo 0 [24, 22, 21, 20]) i0 i1 i2 i3 i4 i5 i6 i7 i8 i9 i10 (nI 4)) := by
  refine Ct.ofJ RX6 rfl [some (.ref 171), some (.int (nI p)), some (.int (nI 1)), none] rfl (by decide) (by simp [Value.category]) ?_
  refine j_aload_n dX6_ask_0 rfl rfl ?_
  refine j_iload_n dX6_ask_1 rfl rfl ?_
  refine j_callV (m_one enc_n hN _) dX6_ask_2 rfl mv_X6_148 mH_o rfl ⟨(Nat.le_of_ble_eq_true rfl), (Nat.le_of_ble_eq_true rfl)⟩ ⟨(Nat.le_of_ble_eq_true rfl), (Nat.le_of_ble_eq_true rfl)⟩ (Nat.le_of_ble_eq_true rfl) ?_
  refine j_top (nI 1) (oneI_k hp hN) ?_
  refine j_if_eq 18 dX6_ask_5 (by decide) (fun h => absurd h (by decide)) (fun _ => ?_)
  refine j_iload_n dX6_ask_8 rfl rfl ?_
  refine j_i2l dX6_ask_9 ?_
  refine j_lconst (0) dX6_ask_10 rfl ?_
  refine j_lconst (1) dX6_ask_11 rfl ?_
  refine j_callS (m_in3 (nI 1) (nI 0) (nI 1) rfl rfl) dX6_ask_12 rfl ms_X6_54 ⟨(Nat.le_of_ble_eq_true rfl), (Nat.le_of_ble_eq_true rfl)⟩ ⟨(Nat.le_of_ble_eq_true rfl), (Nat.le_of_ble_eq_true rfl)⟩ (Nat.le_of_ble_eq_true rfl) ?_
  refine j_top (nI 1) (inI_N (by omega) (by omega) (by omega)) ?_
  refine j_if_ne 21 dX6_ask_15 (by decide) (fun _ => ?_) (fun h => absurd h (by decide))
  refine j_aload_n dX6_ask_21 rfl rfl ?_
  refine j_iconst (nI 0) dX6_ask_22 rfl ?_
  refine j_putf dX6_ask_23 6 23 rfl (Nat.le_of_ble_eq_true rfl) fl_X6_210 in_6 tyX6 tyX6_ok nmX6 rfl rfl mH_o (Nat.le_of_ble_eq_true rfl) _ mH_p11 ?_
  refine j_aload_n dX6_ask_26 rfl rfl ?_
  refine j_iload_n dX6_ask_27 rfl rfl ?_
  refine j_callV (m_kindOf hN hp hu hu2 hz) dX6_ask_28 rfl mv_X6_205 mH_o rfl ⟨(Nat.le_of_ble_eq_true rfl), (Nat.le_of_ble_eq_true rfl)⟩ ⟨(Nat.le_of_ble_eq_true rfl), (Nat.le_of_ble_eq_true rfl)⟩ (Nat.le_of_ble_eq_true rfl) ?_
  refine j_top (nI 3) hk ?_
  refine j_istore_n dX6_ask_31 rfl (Nat.le_of_ble_eq_true rfl) rfl ?_
  refine j_iload_n dX6_ask_32 rfl rfl ?_
  refine j_top (nI 1) rfl ?_
  refine j_if_ne 59 dX6_ask_33 (by decide) (fun _ => ?_) (fun h => absurd h (by decide))
  refine j_iload_n dX6_ask_59 rfl rfl ?_
  refine j_iconst (nI 3) dX6_ask_60 rfl ?_
  refine j_icmp_leN 73 dX6_ask_61 (by decide) (by omega) (by omega) (fun b61 => ?_) (fun b61 => by exfalso; omega)
  refine j_aload_n dX6_ask_73 rfl rfl ?_
  refine j_iload_n dX6_ask_74 rfl rfl ?_
  refine j_iload_n dX6_ask_75 rfl rfl ?_
  refine j_callV (m_markOwing_3 (tr := 0) hN hp (by omega)) dX6_ask_76 rfl mv_X6_227 mH_o rfl ⟨(Nat.le_of_ble_eq_true rfl), (Nat.le_of_ble_eq_true rfl)⟩ ⟨(Nat.le_of_ble_eq_true rfl), (Nat.le_of_ble_eq_true rfl)⟩ (Nat.le_of_ble_eq_true rfl) ?_
  exact j_iret rfl dX6_ask_79 rfl rfl (Nat.le_of_ble_eq_true rfl) (Nat.le_of_ble_eq_true rfl)
theorem m_ask_4_1 (hN : sN d ≤ 7) (hp : p < sN d) (hu : 1 ≤ sU d) (hu2 : sU d ≤ 20) (hz : ¬ 0 < dsum (sD d) (sN d) p → dsum (sD d) (sN d) p = 0) (hk : kindI (sD d) (sF d) (sN d) (sU d) p = nI 4) : Ct G yX6_ask cX6_ask 4 (some .int) 9 0 0 z (mH σ (encT d) a1 a2 a3 a4 a5 a6 a7 a8 a9 a10 bo i0 i1 i2 i3 i4 i5 i6 i7 i8 i9 i10 i11) [.ref 171, .int (nI p), .int (nI 1)] (some (.int (nI p - (sC d p - nI 100)))) z (mH σ (encT d) a1 a2 a3 a4 a5 a6 a7 a8 a9 a10 (apB bo 0 [23, 20, 13, 10]) i0 i1 i2 i3 i4 i5 i6 i7 i8 i9 i10 (nI 4)) := by
  refine Ct.ofJ RX6 rfl [some (.ref 171), some (.int (nI p)), some (.int (nI 1)), none] rfl (by decide) (by simp [Value.category]) ?_
  refine j_aload_n dX6_ask_0 rfl rfl ?_
  refine j_iload_n dX6_ask_1 rfl rfl ?_
  refine j_callV (m_one enc_n hN _) dX6_ask_2 rfl mv_X6_148 mH_o rfl ⟨(Nat.le_of_ble_eq_true rfl), (Nat.le_of_ble_eq_true rfl)⟩ ⟨(Nat.le_of_ble_eq_true rfl), (Nat.le_of_ble_eq_true rfl)⟩ (Nat.le_of_ble_eq_true rfl) ?_
  refine j_top (nI 1) (oneI_k hp hN) ?_
  refine j_if_eq 18 dX6_ask_5 (by decide) (fun h => absurd h (by decide)) (fun _ => ?_)
  refine j_iload_n dX6_ask_8 rfl rfl ?_
  refine j_i2l dX6_ask_9 ?_
  refine j_lconst (0) dX6_ask_10 rfl ?_
  refine j_lconst (1) dX6_ask_11 rfl ?_
  refine j_callS (m_in3 (nI 1) (nI 0) (nI 1) rfl rfl) dX6_ask_12 rfl ms_X6_54 ⟨(Nat.le_of_ble_eq_true rfl), (Nat.le_of_ble_eq_true rfl)⟩ ⟨(Nat.le_of_ble_eq_true rfl), (Nat.le_of_ble_eq_true rfl)⟩ (Nat.le_of_ble_eq_true rfl) ?_
  refine j_top (nI 1) (inI_N (by omega) (by omega) (by omega)) ?_
  refine j_if_ne 21 dX6_ask_15 (by decide) (fun _ => ?_) (fun h => absurd h (by decide))
  refine j_aload_n dX6_ask_21 rfl rfl ?_
  refine j_iconst (nI 0) dX6_ask_22 rfl ?_
  refine j_putf dX6_ask_23 6 23 rfl (Nat.le_of_ble_eq_true rfl) fl_X6_210 in_6 tyX6 tyX6_ok nmX6 rfl rfl mH_o (Nat.le_of_ble_eq_true rfl) _ mH_p11 ?_
  refine j_aload_n dX6_ask_26 rfl rfl ?_
  refine j_iload_n dX6_ask_27 rfl rfl ?_
  refine j_callV (m_kindOf hN hp hu hu2 hz) dX6_ask_28 rfl mv_X6_205 mH_o rfl ⟨(Nat.le_of_ble_eq_true rfl), (Nat.le_of_ble_eq_true rfl)⟩ ⟨(Nat.le_of_ble_eq_true rfl), (Nat.le_of_ble_eq_true rfl)⟩ (Nat.le_of_ble_eq_true rfl) ?_
  refine j_top (nI 4) hk ?_
  refine j_istore_n dX6_ask_31 rfl (Nat.le_of_ble_eq_true rfl) rfl ?_
  refine j_iload_n dX6_ask_32 rfl rfl ?_
  refine j_top (nI 1) rfl ?_
  refine j_if_ne 59 dX6_ask_33 (by decide) (fun _ => ?_) (fun h => absurd h (by decide))
  refine j_iload_n dX6_ask_59 rfl rfl ?_
  refine j_iconst (nI 3) dX6_ask_60 rfl ?_
  refine j_icmp_leN 73 dX6_ask_61 (by decide) (by omega) (by omega) (fun b61 => by exfalso; omega) (fun b61 => ?_)
  refine j_aload_n dX6_ask_64 rfl rfl ?_
  refine j_iload_n dX6_ask_65 rfl rfl ?_
  refine j_iload_n dX6_ask_66 rfl rfl ?_
  refine j_callV (m_markFree_4 (tr := 0) hN hp (by omega)) dX6_ask_67 rfl mv_X6_233 mH_o rfl ⟨(Nat.le_of_ble_eq_true rfl), (Nat.le_of_ble_eq_true rfl)⟩ ⟨(Nat.le_of_ble_eq_true rfl), (Nat.le_of_ble_eq_true rfl)⟩ (Nat.le_of_ble_eq_true rfl) ?_
  refine j_goto 79 dX6_ask_70 (by decide) ?_
  exact j_iret rfl dX6_ask_79 rfl rfl (Nat.le_of_ble_eq_true rfl) (Nat.le_of_ble_eq_true rfl)
theorem m_ask_5_1 (hN : sN d ≤ 7) (hp : p < sN d) (hu : 1 ≤ sU d) (hu2 : sU d ≤ 20) (hz : ¬ 0 < dsum (sD d) (sN d) p → dsum (sD d) (sN d) p = 0) (hk : kindI (sD d) (sF d) (sN d) (sU d) p = nI 5) : Ct G yX6_ask cX6_ask 4 (some .int) 9 0 0 z (mH σ (encT d) a1 a2 a3 a4 a5 a6 a7 a8 a9 a10 bo i0 i1 i2 i3 i4 i5 i6 i7 i8 i9 i10 i11) [.ref 171, .int (nI p), .int (nI 1)] (some (.int (nI p - (nI 2 * (sC d p - nI 100))))) z (mH σ (encT d) a1 a2 a3 a4 a5 a6 a7 a8 a9 a10 (apB bo 0 [23, 20, 14, 13, 10]) i0 i1 i2 i3 i4 i5 i6 i7 i8 i9 i10 (nI 5)) := by
  refine Ct.ofJ RX6 rfl [some (.ref 171), some (.int (nI p)), some (.int (nI 1)), none] rfl (by decide) (by simp [Value.category]) ?_
  refine j_aload_n dX6_ask_0 rfl rfl ?_
  refine j_iload_n dX6_ask_1 rfl rfl ?_
  refine j_callV (m_one enc_n hN _) dX6_ask_2 rfl mv_X6_148 mH_o rfl ⟨(Nat.le_of_ble_eq_true rfl), (Nat.le_of_ble_eq_true rfl)⟩ ⟨(Nat.le_of_ble_eq_true rfl), (Nat.le_of_ble_eq_true rfl)⟩ (Nat.le_of_ble_eq_true rfl) ?_
  refine j_top (nI 1) (oneI_k hp hN) ?_
  refine j_if_eq 18 dX6_ask_5 (by decide) (fun h => absurd h (by decide)) (fun _ => ?_)
  refine j_iload_n dX6_ask_8 rfl rfl ?_
  refine j_i2l dX6_ask_9 ?_
  refine j_lconst (0) dX6_ask_10 rfl ?_
  refine j_lconst (1) dX6_ask_11 rfl ?_
  refine j_callS (m_in3 (nI 1) (nI 0) (nI 1) rfl rfl) dX6_ask_12 rfl ms_X6_54 ⟨(Nat.le_of_ble_eq_true rfl), (Nat.le_of_ble_eq_true rfl)⟩ ⟨(Nat.le_of_ble_eq_true rfl), (Nat.le_of_ble_eq_true rfl)⟩ (Nat.le_of_ble_eq_true rfl) ?_
  refine j_top (nI 1) (inI_N (by omega) (by omega) (by omega)) ?_
  refine j_if_ne 21 dX6_ask_15 (by decide) (fun _ => ?_) (fun h => absurd h (by decide))
  refine j_aload_n dX6_ask_21 rfl rfl ?_
  refine j_iconst (nI 0) dX6_ask_22 rfl ?_
  refine j_putf dX6_ask_23 6 23 rfl (Nat.le_of_ble_eq_true rfl) fl_X6_210 in_6 tyX6 tyX6_ok nmX6 rfl rfl mH_o (Nat.le_of_ble_eq_true rfl) _ mH_p11 ?_
  refine j_aload_n dX6_ask_26 rfl rfl ?_
  refine j_iload_n dX6_ask_27 rfl rfl ?_
  refine j_callV (m_kindOf hN hp hu hu2 hz) dX6_ask_28 rfl mv_X6_205 mH_o rfl ⟨(Nat.le_of_ble_eq_true rfl), (Nat.le_of_ble_eq_true rfl)⟩ ⟨(Nat.le_of_ble_eq_true rfl), (Nat.le_of_ble_eq_true rfl)⟩ (Nat.le_of_ble_eq_true rfl) ?_
  refine j_top (nI 5) hk ?_
  refine j_istore_n dX6_ask_31 rfl (Nat.le_of_ble_eq_true rfl) rfl ?_
  refine j_iload_n dX6_ask_32 rfl rfl ?_
  refine j_top (nI 1) rfl ?_
  refine j_if_ne 59 dX6_ask_33 (by decide) (fun _ => ?_) (fun h => absurd h (by decide))
  refine j_iload_n dX6_ask_59 rfl rfl ?_
  refine j_iconst (nI 3) dX6_ask_60 rfl ?_
  refine j_icmp_leN 73 dX6_ask_61 (by decide) (by omega) (by omega) (fun b61 => by exfalso; omega) (fun b61 => ?_)
  refine j_aload_n dX6_ask_64 rfl rfl ?_
  refine j_iload_n dX6_ask_65 rfl rfl ?_
  refine j_iload_n dX6_ask_66 rfl rfl ?_
  refine j_callV (m_markFree_5 (tr := 0) hN hp (by omega)) dX6_ask_67 rfl mv_X6_233 mH_o rfl ⟨(Nat.le_of_ble_eq_true rfl), (Nat.le_of_ble_eq_true rfl)⟩ ⟨(Nat.le_of_ble_eq_true rfl), (Nat.le_of_ble_eq_true rfl)⟩ (Nat.le_of_ble_eq_true rfl) ?_
  refine j_goto 79 dX6_ask_70 (by decide) ?_
  exact j_iret rfl dX6_ask_79 rfl rfl (Nat.le_of_ble_eq_true rfl) (Nat.le_of_ble_eq_true rfl)
end MA

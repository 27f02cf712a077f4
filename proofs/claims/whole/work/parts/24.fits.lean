/-! THE CLASS's calls: fits, feed -/
def wiI (x : Int32) (m : Nat) : Int32 := if x < 0 then nI 0 else if nI m < x then nI 0 else nI 1
def okI (x y : Int32) : Prop := ¬ x < 0 ∧ ¬ nI 9 < x ∧ ¬ y < -9 ∧ y ≤ nI 9
def ftC (it : Nat → Int32) (i m ab ba ca : Nat) : Prop := (¬ wiI (it i - nI ab) m = 0 ∧ ¬ wiI (it (i + 1) - nI ba) m = 0 ∧ ¬ wiI (it (i + 2) - nI ca) m = 0) ∧ nI ba + nI ca - nI ab - (it i - nI ab) = it (i + 3) ∧ nI ab + (it (i + 2) - nI ca) - nI ba - (it (i + 1) - nI ba) = it (i + 4) ∧ (it i - nI ab) + (it (i + 1) - nI ba) - nI ca - (it (i + 2) - nI ca) = it (i + 5)
theorem ftC_dec (it : Nat → Int32) (i m ab ba ca : Nat) : Nonempty (Decidable (ftC it i m ab ba ca)) := ⟨by unfold ftC; exact inferInstance⟩
noncomputable def ftN (it : Nat → Int32) (i m ab ba : Nat) (c : Nat) : Nat → Nat
  | 0 => c
  | k + 1 => @ite Nat (ftC it i m ab ba k) (Classical.propDecidable _) (ftN it i m ab ba c k + 1) (ftN it i m ab ba c k)
noncomputable def ftB (it : Nat → Int32) (i m ab : Nat) (c : Nat) : Nat → Nat
  | 0 => c
  | k + 1 => ftN it i m ab k (ftB it i m ab c k) (m + 1)
noncomputable def ftA (it : Nat → Int32) (i m : Nat) : Nat → Nat
  | 0 => 0
  | k + 1 => ftB it i m k (ftA it i m k) (m + 1)
theorem dX5_areShadesAndNets_0 : decode cX5_areShadesAndNets 0 = .ok (.iconst 0, 1) := by decide +kernel
theorem dX5_areShadesAndNets_1 : decode cX5_areShadesAndNets 1 = .ok (.istore_n 2, 1) := by decide +kernel
theorem dX5_areShadesAndNets_2 : decode cX5_areShadesAndNets 2 = .ok (.iload_n 2, 1) := by decide +kernel
theorem dX5_areShadesAndNets_3 : decode cX5_areShadesAndNets 3 = .ok (.iconst 3, 1) := by decide +kernel
theorem dX5_areShadesAndNets_4 : decode cX5_areShadesAndNets 4 = .ok (.if_icmp .ge 50, 3) := by decide +kernel
theorem dX5_areShadesAndNets_7 : decode cX5_areShadesAndNets 7 = .ok (.aload_n 0, 1) := by decide +kernel
theorem dX5_areShadesAndNets_8 : decode cX5_areShadesAndNets 8 = .ok (.iload_n 1, 1) := by decide +kernel
theorem dX5_areShadesAndNets_9 : decode cX5_areShadesAndNets 9 = .ok (.iload_n 2, 1) := by decide +kernel
theorem dX5_areShadesAndNets_10 : decode cX5_areShadesAndNets 10 = .ok (.iadd, 1) := by decide +kernel
theorem dX5_areShadesAndNets_11 : decode cX5_areShadesAndNets 11 = .ok (.iaload, 1) := by decide +kernel
theorem dX5_areShadesAndNets_12 : decode cX5_areShadesAndNets 12 = .ok (.istore_n 3, 1) := by decide +kernel
theorem dX5_areShadesAndNets_13 : decode cX5_areShadesAndNets 13 = .ok (.aload_n 0, 1) := by decide +kernel
theorem dX5_areShadesAndNets_14 : decode cX5_areShadesAndNets 14 = .ok (.iload_n 1, 1) := by decide +kernel
theorem dX5_areShadesAndNets_15 : decode cX5_areShadesAndNets 15 = .ok (.iconst 3, 1) := by decide +kernel
theorem dX5_areShadesAndNets_16 : decode cX5_areShadesAndNets 16 = .ok (.iadd, 1) := by decide +kernel
theorem dX5_areShadesAndNets_17 : decode cX5_areShadesAndNets 17 = .ok (.iload_n 2, 1) := by decide +kernel
theorem dX5_areShadesAndNets_18 : decode cX5_areShadesAndNets 18 = .ok (.iadd, 1) := by decide +kernel
theorem dX5_areShadesAndNets_19 : decode cX5_areShadesAndNets 19 = .ok (.iaload, 1) := by decide +kernel
theorem dX5_areShadesAndNets_20 : decode cX5_areShadesAndNets 20 = .ok (.istore 4, 2) := by decide +kernel
theorem dX5_areShadesAndNets_22 : decode cX5_areShadesAndNets 22 = .ok (.iload_n 3, 1) := by decide +kernel
theorem dX5_areShadesAndNets_23 : decode cX5_areShadesAndNets 23 = .ok (.ifCond .lt 23, 3) := by decide +kernel
theorem dX5_areShadesAndNets_26 : decode cX5_areShadesAndNets 26 = .ok (.iload_n 3, 1) := by decide +kernel
theorem dX5_areShadesAndNets_27 : decode cX5_areShadesAndNets 27 = .ok (.bipush 9, 2) := by decide +kernel
theorem dX5_areShadesAndNets_29 : decode cX5_areShadesAndNets 29 = .ok (.if_icmp .gt 17, 3) := by decide +kernel
theorem dX5_areShadesAndNets_32 : decode cX5_areShadesAndNets 32 = .ok (.iload 4, 2) := by decide +kernel
theorem dX5_areShadesAndNets_34 : decode cX5_areShadesAndNets 34 = .ok (.bipush (-9), 2) := by decide +kernel
theorem dX5_areShadesAndNets_36 : decode cX5_areShadesAndNets 36 = .ok (.if_icmp .lt 10, 3) := by decide +kernel
theorem dX5_areShadesAndNets_39 : decode cX5_areShadesAndNets 39 = .ok (.iload 4, 2) := by decide +kernel
theorem dX5_areShadesAndNets_41 : decode cX5_areShadesAndNets 41 = .ok (.bipush 9, 2) := by decide +kernel
theorem dX5_areShadesAndNets_43 : decode cX5_areShadesAndNets 43 = .ok (.if_icmp .le 5, 3) := by decide +kernel
theorem dX5_areShadesAndNets_46 : decode cX5_areShadesAndNets 46 = .ok (.iconst 0, 1) := by decide +kernel
theorem dX5_areShadesAndNets_47 : decode cX5_areShadesAndNets 47 = .ok (.ireturn, 1) := by decide +kernel
theorem dX5_areShadesAndNets_48 : decode cX5_areShadesAndNets 48 = .ok (.iinc 2 1, 3) := by decide +kernel
theorem dX5_areShadesAndNets_51 : decode cX5_areShadesAndNets 51 = .ok (.goto (-49), 3) := by decide +kernel
theorem dX5_areShadesAndNets_54 : decode cX5_areShadesAndNets 54 = .ok (.iconst 1, 1) := by decide +kernel
theorem dX5_areShadesAndNets_55 : decode cX5_areShadesAndNets 55 = .ok (.ireturn, 1) := by decide +kernel
theorem dX5_waysToFit_0 : decode cX5_waysToFit 0 = .ok (.iconst 0, 1) := by decide +kernel
theorem dX5_waysToFit_1 : decode cX5_waysToFit 1 = .ok (.istore_n 3, 1) := by decide +kernel
theorem dX5_waysToFit_2 : decode cX5_waysToFit 2 = .ok (.iconst 0, 1) := by decide +kernel
theorem dX5_waysToFit_3 : decode cX5_waysToFit 3 = .ok (.istore 4, 2) := by decide +kernel
theorem dX5_waysToFit_5 : decode cX5_waysToFit 5 = .ok (.iload 4, 2) := by decide +kernel
theorem dX5_waysToFit_7 : decode cX5_waysToFit 7 = .ok (.iload_n 2, 1) := by decide +kernel
theorem dX5_waysToFit_8 : decode cX5_waysToFit 8 = .ok (.if_icmp .gt 166, 3) := by decide +kernel
theorem dX5_waysToFit_11 : decode cX5_waysToFit 11 = .ok (.aload_n 0, 1) := by decide +kernel
theorem dX5_waysToFit_12 : decode cX5_waysToFit 12 = .ok (.iload_n 1, 1) := by decide +kernel
theorem dX5_waysToFit_13 : decode cX5_waysToFit 13 = .ok (.iaload, 1) := by decide +kernel
theorem dX5_waysToFit_14 : decode cX5_waysToFit 14 = .ok (.iload 4, 2) := by decide +kernel
theorem dX5_waysToFit_16 : decode cX5_waysToFit 16 = .ok (.isub, 1) := by decide +kernel
theorem dX5_waysToFit_17 : decode cX5_waysToFit 17 = .ok (.istore 5, 2) := by decide +kernel
theorem dX5_waysToFit_19 : decode cX5_waysToFit 19 = .ok (.iconst 0, 1) := by decide +kernel
theorem dX5_waysToFit_20 : decode cX5_waysToFit 20 = .ok (.istore 6, 2) := by decide +kernel
theorem dX5_waysToFit_22 : decode cX5_waysToFit 22 = .ok (.iload 6, 2) := by decide +kernel
theorem dX5_waysToFit_24 : decode cX5_waysToFit 24 = .ok (.iload_n 2, 1) := by decide +kernel
theorem dX5_waysToFit_25 : decode cX5_waysToFit 25 = .ok (.if_icmp .gt 143, 3) := by decide +kernel
theorem dX5_waysToFit_28 : decode cX5_waysToFit 28 = .ok (.aload_n 0, 1) := by decide +kernel
theorem dX5_waysToFit_29 : decode cX5_waysToFit 29 = .ok (.iload_n 1, 1) := by decide +kernel
theorem dX5_waysToFit_30 : decode cX5_waysToFit 30 = .ok (.iconst 1, 1) := by decide +kernel
theorem dX5_waysToFit_31 : decode cX5_waysToFit 31 = .ok (.iadd, 1) := by decide +kernel
theorem dX5_waysToFit_32 : decode cX5_waysToFit 32 = .ok (.iaload, 1) := by decide +kernel
theorem dX5_waysToFit_33 : decode cX5_waysToFit 33 = .ok (.iload 6, 2) := by decide +kernel
theorem dX5_waysToFit_35 : decode cX5_waysToFit 35 = .ok (.isub, 1) := by decide +kernel
theorem dX5_waysToFit_36 : decode cX5_waysToFit 36 = .ok (.istore 7, 2) := by decide +kernel
theorem dX5_waysToFit_38 : decode cX5_waysToFit 38 = .ok (.iconst 0, 1) := by decide +kernel
theorem dX5_waysToFit_39 : decode cX5_waysToFit 39 = .ok (.istore 8, 2) := by decide +kernel
theorem dX5_waysToFit_41 : decode cX5_waysToFit 41 = .ok (.iload 8, 2) := by decide +kernel
theorem dX5_waysToFit_43 : decode cX5_waysToFit 43 = .ok (.iload_n 2, 1) := by decide +kernel
theorem dX5_waysToFit_44 : decode cX5_waysToFit 44 = .ok (.if_icmp .gt 118, 3) := by decide +kernel
theorem dX5_waysToFit_47 : decode cX5_waysToFit 47 = .ok (.aload_n 0, 1) := by decide +kernel
theorem dX5_waysToFit_48 : decode cX5_waysToFit 48 = .ok (.iload_n 1, 1) := by decide +kernel
theorem dX5_waysToFit_49 : decode cX5_waysToFit 49 = .ok (.iconst 2, 1) := by decide +kernel
theorem dX5_waysToFit_50 : decode cX5_waysToFit 50 = .ok (.iadd, 1) := by decide +kernel
theorem dX5_waysToFit_51 : decode cX5_waysToFit 51 = .ok (.iaload, 1) := by decide +kernel
theorem dX5_waysToFit_52 : decode cX5_waysToFit 52 = .ok (.iload 8, 2) := by decide +kernel
theorem dX5_waysToFit_54 : decode cX5_waysToFit 54 = .ok (.isub, 1) := by decide +kernel
theorem dX5_waysToFit_55 : decode cX5_waysToFit 55 = .ok (.istore 9, 2) := by decide +kernel
theorem dX5_waysToFit_57 : decode cX5_waysToFit 57 = .ok (.iload 5, 2) := by decide +kernel
theorem dX5_waysToFit_59 : decode cX5_waysToFit 59 = .ok (.iload_n 2, 1) := by decide +kernel
theorem dX5_waysToFit_60 : decode cX5_waysToFit 60 = .ok (.invokestatic 259, 3) := by decide +kernel
theorem dX5_waysToFit_63 : decode cX5_waysToFit 63 = .ok (.ifCond .eq 25, 3) := by decide +kernel
theorem dX5_waysToFit_66 : decode cX5_waysToFit 66 = .ok (.iload 7, 2) := by decide +kernel
theorem dX5_waysToFit_68 : decode cX5_waysToFit 68 = .ok (.iload_n 2, 1) := by decide +kernel
theorem dX5_waysToFit_69 : decode cX5_waysToFit 69 = .ok (.invokestatic 259, 3) := by decide +kernel
theorem dX5_waysToFit_72 : decode cX5_waysToFit 72 = .ok (.ifCond .eq 16, 3) := by decide +kernel
theorem dX5_waysToFit_75 : decode cX5_waysToFit 75 = .ok (.iload 9, 2) := by decide +kernel
theorem dX5_waysToFit_77 : decode cX5_waysToFit 77 = .ok (.iload_n 2, 1) := by decide +kernel
theorem dX5_waysToFit_78 : decode cX5_waysToFit 78 = .ok (.invokestatic 259, 3) := by decide +kernel
theorem dX5_waysToFit_81 : decode cX5_waysToFit 81 = .ok (.ifCond .eq 7, 3) := by decide +kernel
theorem dX5_waysToFit_84 : decode cX5_waysToFit 84 = .ok (.iconst 1, 1) := by decide +kernel
theorem dX5_waysToFit_85 : decode cX5_waysToFit 85 = .ok (.goto 4, 3) := by decide +kernel
theorem dX5_waysToFit_88 : decode cX5_waysToFit 88 = .ok (.iconst 0, 1) := by decide +kernel
theorem dX5_waysToFit_89 : decode cX5_waysToFit 89 = .ok (.istore 10, 2) := by decide +kernel
theorem dX5_waysToFit_91 : decode cX5_waysToFit 91 = .ok (.iload 10, 2) := by decide +kernel
theorem dX5_waysToFit_93 : decode cX5_waysToFit 93 = .ok (.ifCond .eq 63, 3) := by decide +kernel
theorem dX5_waysToFit_96 : decode cX5_waysToFit 96 = .ok (.iload 6, 2) := by decide +kernel
theorem dX5_waysToFit_98 : decode cX5_waysToFit 98 = .ok (.iload 8, 2) := by decide +kernel
theorem dX5_waysToFit_100 : decode cX5_waysToFit 100 = .ok (.iadd, 1) := by decide +kernel
theorem dX5_waysToFit_101 : decode cX5_waysToFit 101 = .ok (.iload 4, 2) := by decide +kernel
theorem dX5_waysToFit_103 : decode cX5_waysToFit 103 = .ok (.isub, 1) := by decide +kernel
theorem dX5_waysToFit_104 : decode cX5_waysToFit 104 = .ok (.iload 5, 2) := by decide +kernel
theorem dX5_waysToFit_106 : decode cX5_waysToFit 106 = .ok (.isub, 1) := by decide +kernel
theorem dX5_waysToFit_107 : decode cX5_waysToFit 107 = .ok (.aload_n 0, 1) := by decide +kernel
theorem dX5_waysToFit_108 : decode cX5_waysToFit 108 = .ok (.iload_n 1, 1) := by decide +kernel
theorem dX5_waysToFit_109 : decode cX5_waysToFit 109 = .ok (.iconst 3, 1) := by decide +kernel
theorem dX5_waysToFit_110 : decode cX5_waysToFit 110 = .ok (.iadd, 1) := by decide +kernel
theorem dX5_waysToFit_111 : decode cX5_waysToFit 111 = .ok (.iaload, 1) := by decide +kernel
theorem dX5_waysToFit_112 : decode cX5_waysToFit 112 = .ok (.if_icmp .ne 44, 3) := by decide +kernel
theorem dX5_waysToFit_115 : decode cX5_waysToFit 115 = .ok (.iload 4, 2) := by decide +kernel
theorem dX5_waysToFit_117 : decode cX5_waysToFit 117 = .ok (.iload 9, 2) := by decide +kernel
theorem dX5_waysToFit_119 : decode cX5_waysToFit 119 = .ok (.iadd, 1) := by decide +kernel
theorem dX5_waysToFit_120 : decode cX5_waysToFit 120 = .ok (.iload 6, 2) := by decide +kernel
theorem dX5_waysToFit_122 : decode cX5_waysToFit 122 = .ok (.isub, 1) := by decide +kernel
theorem dX5_waysToFit_123 : decode cX5_waysToFit 123 = .ok (.iload 7, 2) := by decide +kernel
theorem dX5_waysToFit_125 : decode cX5_waysToFit 125 = .ok (.isub, 1) := by decide +kernel
theorem dX5_waysToFit_126 : decode cX5_waysToFit 126 = .ok (.aload_n 0, 1) := by decide +kernel
theorem dX5_waysToFit_127 : decode cX5_waysToFit 127 = .ok (.iload_n 1, 1) := by decide +kernel
theorem dX5_waysToFit_128 : decode cX5_waysToFit 128 = .ok (.iconst 4, 1) := by decide +kernel
theorem dX5_waysToFit_129 : decode cX5_waysToFit 129 = .ok (.iadd, 1) := by decide +kernel
theorem dX5_waysToFit_130 : decode cX5_waysToFit 130 = .ok (.iaload, 1) := by decide +kernel
theorem dX5_waysToFit_131 : decode cX5_waysToFit 131 = .ok (.if_icmp .ne 25, 3) := by decide +kernel
theorem dX5_waysToFit_134 : decode cX5_waysToFit 134 = .ok (.iload 5, 2) := by decide +kernel
theorem dX5_waysToFit_136 : decode cX5_waysToFit 136 = .ok (.iload 7, 2) := by decide +kernel
theorem dX5_waysToFit_138 : decode cX5_waysToFit 138 = .ok (.iadd, 1) := by decide +kernel
theorem dX5_waysToFit_139 : decode cX5_waysToFit 139 = .ok (.iload 8, 2) := by decide +kernel
theorem dX5_waysToFit_141 : decode cX5_waysToFit 141 = .ok (.isub, 1) := by decide +kernel
theorem dX5_waysToFit_142 : decode cX5_waysToFit 142 = .ok (.iload 9, 2) := by decide +kernel
theorem dX5_waysToFit_144 : decode cX5_waysToFit 144 = .ok (.isub, 1) := by decide +kernel
theorem dX5_waysToFit_145 : decode cX5_waysToFit 145 = .ok (.aload_n 0, 1) := by decide +kernel
theorem dX5_waysToFit_146 : decode cX5_waysToFit 146 = .ok (.iload_n 1, 1) := by decide +kernel
theorem dX5_waysToFit_147 : decode cX5_waysToFit 147 = .ok (.iconst 5, 1) := by decide +kernel
theorem dX5_waysToFit_148 : decode cX5_waysToFit 148 = .ok (.iadd, 1) := by decide +kernel
theorem dX5_waysToFit_149 : decode cX5_waysToFit 149 = .ok (.iaload, 1) := by decide +kernel
theorem dX5_waysToFit_150 : decode cX5_waysToFit 150 = .ok (.if_icmp .ne 6, 3) := by decide +kernel
theorem dX5_waysToFit_153 : decode cX5_waysToFit 153 = .ok (.iinc 3 1, 3) := by decide +kernel
theorem dX5_waysToFit_156 : decode cX5_waysToFit 156 = .ok (.iinc 8 1, 3) := by decide +kernel
theorem dX5_waysToFit_159 : decode cX5_waysToFit 159 = .ok (.goto (-118), 3) := by decide +kernel
theorem dX5_waysToFit_162 : decode cX5_waysToFit 162 = .ok (.iinc 6 1, 3) := by decide +kernel
theorem dX5_waysToFit_165 : decode cX5_waysToFit 165 = .ok (.goto (-143), 3) := by decide +kernel
theorem dX5_waysToFit_168 : decode cX5_waysToFit 168 = .ok (.iinc 4 1, 3) := by decide +kernel
theorem dX5_waysToFit_171 : decode cX5_waysToFit 171 = .ok (.goto (-166), 3) := by decide +kernel
theorem dX5_waysToFit_174 : decode cX5_waysToFit 174 = .ok (.iload_n 3, 1) := by decide +kernel
theorem dX5_waysToFit_175 : decode cX5_waysToFit 175 = .ok (.ireturn, 1) := by decide +kernel
theorem dX5_fits_0 : decode cX5_fits 0 = .ok (.iload_n 1, 1) := by decide +kernel
theorem dX5_fits_1 : decode cX5_fits 1 = .ok (.invokestatic 55, 3) := by decide +kernel
theorem dX5_fits_4 : decode cX5_fits 4 = .ok (.ifCond .ne 12, 3) := by decide +kernel
theorem dX5_fits_7 : decode cX5_fits 7 = .ok (.iload_n 3, 1) := by decide +kernel
theorem dX5_fits_8 : decode cX5_fits 8 = .ok (.ifCond .lt 8, 3) := by decide +kernel
theorem dX5_fits_11 : decode cX5_fits 11 = .ok (.iload_n 3, 1) := by decide +kernel
theorem dX5_fits_12 : decode cX5_fits 12 = .ok (.iconst 3, 1) := by decide +kernel
theorem dX5_fits_13 : decode cX5_fits 13 = .ok (.if_icmp .le 6, 3) := by decide +kernel
theorem dX5_fits_16 : decode cX5_fits 16 = .ok (.ldc 59, 2) := by decide +kernel
theorem dX5_fits_18 : decode cX5_fits 18 = .ok (.ireturn, 1) := by decide +kernel
theorem dX5_fits_19 : decode cX5_fits 19 = .ok (.aload_n 0, 1) := by decide +kernel
theorem dX5_fits_20 : decode cX5_fits 20 = .ok (.getfield 11, 3) := by decide +kernel
theorem dX5_fits_23 : decode cX5_fits 23 = .ok (.iload_n 1, 1) := by decide +kernel
theorem dX5_fits_24 : decode cX5_fits 24 = .ok (.aaload, 1) := by decide +kernel
theorem dX5_fits_25 : decode cX5_fits 25 = .ok (.astore 4, 2) := by decide +kernel
theorem dX5_fits_27 : decode cX5_fits 27 = .ok (.aload 4, 2) := by decide +kernel
theorem dX5_fits_29 : decode cX5_fits 29 = .ok (.invokevirtual 71, 3) := by decide +kernel
theorem dX5_fits_32 : decode cX5_fits 32 = .ok (.ifCond .eq 9, 3) := by decide +kernel
theorem dX5_fits_35 : decode cX5_fits 35 = .ok (.aload_n 0, 1) := by decide +kernel
theorem dX5_fits_36 : decode cX5_fits 36 = .ok (.iconst 1, 1) := by decide +kernel
theorem dX5_fits_37 : decode cX5_fits 37 = .ok (.invokevirtual 60, 3) := by decide +kernel
theorem dX5_fits_40 : decode cX5_fits 40 = .ok (.ireturn, 1) := by decide +kernel
theorem dX5_fits_41 : decode cX5_fits 41 = .ok (.aload 4, 2) := by decide +kernel
theorem dX5_fits_43 : decode cX5_fits 43 = .ok (.iload_n 2, 1) := by decide +kernel
theorem dX5_fits_44 : decode cX5_fits 44 = .ok (.bipush 6, 2) := by decide +kernel
theorem dX5_fits_46 : decode cX5_fits 46 = .ok (.invokevirtual 75, 3) := by decide +kernel
theorem dX5_fits_49 : decode cX5_fits 49 = .ok (.ifCond .ne 9, 3) := by decide +kernel
theorem dX5_fits_52 : decode cX5_fits 52 = .ok (.aload_n 0, 1) := by decide +kernel
theorem dX5_fits_53 : decode cX5_fits 53 = .ok (.iconst 2, 1) := by decide +kernel
theorem dX5_fits_54 : decode cX5_fits 54 = .ok (.invokevirtual 60, 3) := by decide +kernel
theorem dX5_fits_57 : decode cX5_fits 57 = .ok (.ireturn, 1) := by decide +kernel
theorem dX5_fits_58 : decode cX5_fits 58 = .ok (.aload 4, 2) := by decide +kernel
theorem dX5_fits_60 : decode cX5_fits 60 = .ok (.getfield 87, 3) := by decide +kernel
theorem dX5_fits_63 : decode cX5_fits 63 = .ok (.iload_n 2, 1) := by decide +kernel
theorem dX5_fits_64 : decode cX5_fits 64 = .ok (.invokestatic 202, 3) := by decide +kernel
theorem dX5_fits_67 : decode cX5_fits 67 = .ok (.ifCond .ne 6, 3) := by decide +kernel
theorem dX5_fits_70 : decode cX5_fits 70 = .ok (.ldc 59, 2) := by decide +kernel
theorem dX5_fits_72 : decode cX5_fits 72 = .ok (.ireturn, 1) := by decide +kernel
theorem dX5_fits_73 : decode cX5_fits 73 = .ok (.aload_n 0, 1) := by decide +kernel
theorem dX5_fits_74 : decode cX5_fits 74 = .ok (.aload 4, 2) := by decide +kernel
theorem dX5_fits_76 : decode cX5_fits 76 = .ok (.getfield 87, 3) := by decide +kernel
theorem dX5_fits_79 : decode cX5_fits 79 = .ok (.iload_n 2, 1) := by decide +kernel
theorem dX5_fits_80 : decode cX5_fits 80 = .ok (.iload_n 3, 1) := by decide +kernel
theorem dX5_fits_81 : decode cX5_fits 81 = .ok (.invokestatic 206, 3) := by decide +kernel
theorem dX5_fits_84 : decode cX5_fits 84 = .ok (.invokevirtual 68, 3) := by decide +kernel
theorem dX5_fits_87 : decode cX5_fits 87 = .ok (.ireturn, 1) := by decide +kernel
theorem dX5_isWithin_0 : decode cX5_isWithin 0 = .ok (.iload_n 0, 1) := by decide +kernel
theorem dX5_isWithin_1 : decode cX5_isWithin 1 = .ok (.ifCond .lt 12, 3) := by decide +kernel
theorem dX5_isWithin_4 : decode cX5_isWithin 4 = .ok (.iload_n 0, 1) := by decide +kernel
theorem dX5_isWithin_5 : decode cX5_isWithin 5 = .ok (.iload_n 1, 1) := by decide +kernel
theorem dX5_isWithin_6 : decode cX5_isWithin 6 = .ok (.if_icmp .gt 7, 3) := by decide +kernel
theorem dX5_isWithin_9 : decode cX5_isWithin 9 = .ok (.iconst 1, 1) := by decide +kernel
theorem dX5_isWithin_10 : decode cX5_isWithin 10 = .ok (.goto 4, 3) := by decide +kernel
theorem dX5_isWithin_13 : decode cX5_isWithin 13 = .ok (.iconst 0, 1) := by decide +kernel
theorem dX5_isWithin_14 : decode cX5_isWithin 14 = .ok (.ireturn, 1) := by decide +kernel
section O7
variable {G : GG} {z : Nat} {σ : AH} {lf fd : Int32} {rl rn : Nat → Int32} {ri : Nat → Nat → Int32} {tp rd : Nat → Int32} {dd d df : TS} {nx kp : Nat} {da di : Nat → TS} {tr : Nat} {bo ne : Nat → Int32}
theorem c_isWithin (x : Int32) (m : Nat) : Ct G yX5_isWithin cX5_isWithin 2 (some .boolean) 1 0 0 z σ [.int x, .int (nI m)] (some (.int (wiI x m))) z σ := by
  refine Ct.ofJ RX5 rfl [some (.int x), some (.int (nI m))] rfl (by decide) Nat.le.refl ?_
  refine j_iload_n dX5_isWithin_0 rfl rfl ?_
  refine j_if_lt 13 dX5_isWithin_1 (by decide) (fun b1 => ?_) (fun b1 => ?_)
  · refine j_iconst (nI 0) dX5_isWithin_13 rfl ?_
    exact j_zret .boolean rfl rfl dX5_isWithin_14 (by unfold wiI; (repeat' (first | contradiction | rfl | split))) rfl (Nat.le_of_ble_eq_true rfl) (Nat.le_of_ble_eq_true rfl)
  · refine j_iload_n dX5_isWithin_4 rfl rfl ?_
    refine j_iload_n dX5_isWithin_5 rfl rfl ?_
    refine j_icmp_gt 13 dX5_isWithin_6 (by decide) (fun b6 => ?_) (fun b6 => ?_)
    · refine j_iconst (nI 0) dX5_isWithin_13 rfl ?_
      exact j_zret .boolean rfl rfl dX5_isWithin_14 (by unfold wiI; (repeat' (first | contradiction | rfl | split))) rfl (Nat.le_of_ble_eq_true rfl) (Nat.le_of_ble_eq_true rfl)
    · refine j_iconst (nI 1) dX5_isWithin_9 rfl ?_
      refine j_goto 14 dX5_isWithin_10 (by decide) ?_
      exact j_zret .boolean rfl rfl dX5_isWithin_14 (by unfold wiI; (repeat' (first | contradiction | rfl | split))) rfl (Nat.le_of_ble_eq_true rfl) (Nat.le_of_ble_eq_true rfl)
theorem c_san_yes {a i : Nat} {it : Nat → Int32} (hs : σ a = some (.inl (0, 40, it))) (hi : i + 6 ≤ 40) (h : ∀ k, k < 3 → okI (it (i + k)) (it (i + 3 + k))) : Ct G yX5_areShadesAndNets cX5_areShadesAndNets 5 (some .boolean) 1 0 0 z σ [.ref a, .int (nI i)] (some (.int (nI 1))) z σ := by
  refine Ct.ofJ RX5 rfl [some (.ref a), some (.int (nI i)), none, none, none] rfl (by decide) (by simp [Value.category]) ?_
  refine j_iconst (nI 0) dX5_areShadesAndNets_0 rfl ?_
  refine j_istore_n dX5_areShadesAndNets_1 rfl (Nat.le_of_ble_eq_true rfl) rfl ?_
  suffices H : ∀ (kk k : Nat) (o3 o4 : Option Value), k ≤ 3 → 3 < k + kk → J G RX5 cX5_areShadesAndNets 5 (some .boolean) (TQ G 1 0 0 (some (.int (nI 1))) z σ) z σ 0 0 2 [some (.ref a), some (.int (nI i)), some (.int (nI k)), o3, o4] [] from H 4 0 none none (by omega) (by omega)
  intro kk
  induction kk with
  | zero => intro k o3 o4 h1 h2; exact absurd h2 (by omega)
  | succ kk ih =>
    intro k o3 o4 h1 h2
    refine j_iload_n dX5_areShadesAndNets_2 rfl rfl ?_
    refine j_iconst (nI 3) dX5_areShadesAndNets_3 rfl ?_
    refine j_icmp_geN 54 dX5_areShadesAndNets_4 (by decide) (by omega) (by omega) (fun b4 => ?_) (fun b4 => ?_)
    · refine j_iconst (nI 1) dX5_areShadesAndNets_54 rfl ?_
      exact j_zret .boolean rfl rfl dX5_areShadesAndNets_55 rfl rfl (Nat.le_of_ble_eq_true rfl) (Nat.le_of_ble_eq_true rfl)
    · refine j_aload_n dX5_areShadesAndNets_7 rfl rfl ?_
      refine j_iload_n dX5_areShadesAndNets_8 rfl rfl ?_
      refine j_iload_n dX5_areShadesAndNets_9 rfl rfl ?_
      first | refine j_iaddN dX5_areShadesAndNets_10 ?_ | refine j_iadd dX5_areShadesAndNets_10 ?_
      refine j_iald dX5_areShadesAndNets_11 hs rfl (by omega) (by decide) ?_
      refine j_istore_n dX5_areShadesAndNets_12 rfl (Nat.le_of_ble_eq_true rfl) rfl ?_
      refine j_aload_n dX5_areShadesAndNets_13 rfl rfl ?_
      refine j_iload_n dX5_areShadesAndNets_14 rfl rfl ?_
      refine j_iconst (nI 3) dX5_areShadesAndNets_15 rfl ?_
      first | refine j_iaddN dX5_areShadesAndNets_16 ?_ | refine j_iadd dX5_areShadesAndNets_16 ?_
      refine j_iload_n dX5_areShadesAndNets_17 rfl rfl ?_
      first | refine j_iaddN dX5_areShadesAndNets_18 ?_ | refine j_iadd dX5_areShadesAndNets_18 ?_
      refine j_iald dX5_areShadesAndNets_19 hs rfl (by omega) (by decide) ?_
      refine j_istore dX5_areShadesAndNets_20 (Nat.le_of_ble_eq_true rfl) rfl ?_
      refine j_iload_n dX5_areShadesAndNets_22 rfl rfl ?_
      refine j_if_lt 46 dX5_areShadesAndNets_23 (by decide) (fun b23 => by exact absurd b23 (h k (by omega)).1) (fun b23 => ?_)
      refine j_iload_n dX5_areShadesAndNets_26 rfl rfl ?_
      refine j_bipush (nI 9) dX5_areShadesAndNets_27 rfl ?_
      refine j_icmp_gt 46 dX5_areShadesAndNets_29 (by decide) (fun b29 => by exact absurd b29 (h k (by omega)).2.1) (fun b29 => ?_)
      refine j_iload dX5_areShadesAndNets_32 rfl ?_
      refine j_bipush (-9) dX5_areShadesAndNets_34 rfl ?_
      refine j_icmp_lt 46 dX5_areShadesAndNets_36 (by decide) (fun b36 => by exact absurd b36 (h k (by omega)).2.2.1) (fun b36 => ?_)
      refine j_iload dX5_areShadesAndNets_39 rfl ?_
      refine j_bipush (nI 9) dX5_areShadesAndNets_41 rfl ?_
      refine j_icmp_le 48 dX5_areShadesAndNets_43 (by decide) (fun b43 => ?_) (fun b43 => by exact absurd (h k (by omega)).2.2.2 b43)
      first | refine j_iincN dX5_areShadesAndNets_48 rfl (Nat.le_of_ble_eq_true rfl) rfl ?_ | refine j_iinc _ dX5_areShadesAndNets_48 rfl rfl (Nat.le_of_ble_eq_true rfl) rfl ?_
      refine j_goto 2 dX5_areShadesAndNets_51 (by decide) ?_
      exact ih (k + 1) _ _ (by omega) (by omega)
theorem c_san_no {a i : Nat} {it : Nat → Int32} (hs : σ a = some (.inl (0, 40, it))) (hi : i + 6 ≤ 40) (h : ∃ k, k < 3 ∧ ¬ okI (it (i + k)) (it (i + 3 + k))) : Ct G yX5_areShadesAndNets cX5_areShadesAndNets 5 (some .boolean) 1 0 0 z σ [.ref a, .int (nI i)] (some (.int (nI 0))) z σ := by
  refine Ct.ofJ RX5 rfl [some (.ref a), some (.int (nI i)), none, none, none] rfl (by decide) (by simp [Value.category]) ?_
  refine j_iconst (nI 0) dX5_areShadesAndNets_0 rfl ?_
  refine j_istore_n dX5_areShadesAndNets_1 rfl (Nat.le_of_ble_eq_true rfl) rfl ?_
  suffices H : ∀ (kk k : Nat) (o3 o4 : Option Value), k ≤ 3 → 3 < k + kk → (∃ q, k ≤ q ∧ q < 3 ∧ ¬ okI (it (i + q)) (it (i + 3 + q))) → J G RX5 cX5_areShadesAndNets 5 (some .boolean) (TQ G 1 0 0 (some (.int (nI 0))) z σ) z σ 0 0 2 [some (.ref a), some (.int (nI i)), some (.int (nI k)), o3, o4] [] from H 4 0 none none (by omega) (by omega) (by obtain ⟨q, hq, hn⟩ := h; exact ⟨q, by omega, hq, hn⟩)
  intro kk
  induction kk with
  | zero => intro k o3 o4 h1 h2; exact absurd h2 (by omega)
  | succ kk ih =>
    intro k o3 o4 h1 h2 hq
    refine j_iload_n dX5_areShadesAndNets_2 rfl rfl ?_
    refine j_iconst (nI 3) dX5_areShadesAndNets_3 rfl ?_
    refine j_icmp_geN 54 dX5_areShadesAndNets_4 (by decide) (by omega) (by omega) (fun b4 => by obtain ⟨q, hq1, hq2, _⟩ := hq; exfalso; omega) (fun b4 => ?_)
    refine j_aload_n dX5_areShadesAndNets_7 rfl rfl ?_
    refine j_iload_n dX5_areShadesAndNets_8 rfl rfl ?_
    refine j_iload_n dX5_areShadesAndNets_9 rfl rfl ?_
    first | refine j_iaddN dX5_areShadesAndNets_10 ?_ | refine j_iadd dX5_areShadesAndNets_10 ?_
    refine j_iald dX5_areShadesAndNets_11 hs rfl (by omega) (by decide) ?_
    refine j_istore_n dX5_areShadesAndNets_12 rfl (Nat.le_of_ble_eq_true rfl) rfl ?_
    refine j_aload_n dX5_areShadesAndNets_13 rfl rfl ?_
    refine j_iload_n dX5_areShadesAndNets_14 rfl rfl ?_
    refine j_iconst (nI 3) dX5_areShadesAndNets_15 rfl ?_
    first | refine j_iaddN dX5_areShadesAndNets_16 ?_ | refine j_iadd dX5_areShadesAndNets_16 ?_
    refine j_iload_n dX5_areShadesAndNets_17 rfl rfl ?_
    first | refine j_iaddN dX5_areShadesAndNets_18 ?_ | refine j_iadd dX5_areShadesAndNets_18 ?_
    refine j_iald dX5_areShadesAndNets_19 hs rfl (by omega) (by decide) ?_
    refine j_istore dX5_areShadesAndNets_20 (Nat.le_of_ble_eq_true rfl) rfl ?_
    refine j_iload_n dX5_areShadesAndNets_22 rfl rfl ?_
    refine j_if_lt 46 dX5_areShadesAndNets_23 (by decide) (fun b23 => ?_) (fun b23 => ?_)
    · refine j_iconst (nI 0) dX5_areShadesAndNets_46 rfl ?_
      exact j_zret .boolean rfl rfl dX5_areShadesAndNets_47 rfl rfl (Nat.le_of_ble_eq_true rfl) (Nat.le_of_ble_eq_true rfl)
    · refine j_iload_n dX5_areShadesAndNets_26 rfl rfl ?_
      refine j_bipush (nI 9) dX5_areShadesAndNets_27 rfl ?_
      refine j_icmp_gt 46 dX5_areShadesAndNets_29 (by decide) (fun b29 => ?_) (fun b29 => ?_)
      · refine j_iconst (nI 0) dX5_areShadesAndNets_46 rfl ?_
        exact j_zret .boolean rfl rfl dX5_areShadesAndNets_47 rfl rfl (Nat.le_of_ble_eq_true rfl) (Nat.le_of_ble_eq_true rfl)
      · refine j_iload dX5_areShadesAndNets_32 rfl ?_
        refine j_bipush (-9) dX5_areShadesAndNets_34 rfl ?_
        refine j_icmp_lt 46 dX5_areShadesAndNets_36 (by decide) (fun b36 => ?_) (fun b36 => ?_)
        · refine j_iconst (nI 0) dX5_areShadesAndNets_46 rfl ?_
          exact j_zret .boolean rfl rfl dX5_areShadesAndNets_47 rfl rfl (Nat.le_of_ble_eq_true rfl) (Nat.le_of_ble_eq_true rfl)
        · refine j_iload dX5_areShadesAndNets_39 rfl ?_
          refine j_bipush (nI 9) dX5_areShadesAndNets_41 rfl ?_
          refine j_icmp_le 48 dX5_areShadesAndNets_43 (by decide) (fun b43 => ?_) (fun b43 => ?_)
          · first | refine j_iincN dX5_areShadesAndNets_48 rfl (Nat.le_of_ble_eq_true rfl) rfl ?_ | refine j_iinc _ dX5_areShadesAndNets_48 rfl rfl (Nat.le_of_ble_eq_true rfl) rfl ?_
            refine j_goto 2 dX5_areShadesAndNets_51 (by decide) ?_
            refine ih (k + 1) _ _ (by omega) (by omega) ?_
            obtain ⟨q, hq1, hq2, hq3⟩ := hq
            refine ⟨q, ?_, hq2, hq3⟩
            rcases Nat.lt_or_eq_of_le hq1 with w | w
            · omega
            · subst w; exact absurd ⟨b23, b29, b36, b43⟩ hq3
          · refine j_iconst (nI 0) dX5_areShadesAndNets_46 rfl ?_
            exact j_zret .boolean rfl rfl dX5_areShadesAndNets_47 rfl rfl (Nat.le_of_ble_eq_true rfl) (Nat.le_of_ble_eq_true rfl)
theorem c_waysToFit {a i m : Nat} {it : Nat → Int32} (hs : σ a = some (.inl (0, 40, it))) (hi : i + 6 ≤ 40) (hm : m ≤ 3) : Ct G yX5_waysToFit cX5_waysToFit 11 (some .int) 2 0 0 z σ [.ref a, .int (nI i), .int (nI m)] (some (.int (nI (ftA it i m (m + 1))))) z σ := by
  refine Ct.ofJ RX5 rfl [some (.ref a), some (.int (nI i)), some (.int (nI m)), none, none, none, none, none, none, none, none] rfl (by decide) (by simp [Value.category]) ?_
  refine j_iconst (nI 0) dX5_waysToFit_0 rfl ?_
  refine j_istore_n dX5_waysToFit_1 rfl (Nat.le_of_ble_eq_true rfl) rfl ?_
  refine j_iconst (nI 0) dX5_waysToFit_2 rfl ?_
  refine j_istore dX5_waysToFit_3 (Nat.le_of_ble_eq_true rfl) rfl ?_
  suffices H : ∀ (ka ab : Nat) (o5 o6 o7 o8 o9 o10 : Option Value), ab ≤ m + 1 → m + 1 < ab + ka → J G RX5 cX5_waysToFit 11 (some .int) (TQ G 2 0 0 (some (.int (nI (ftA it i m (m + 1))))) z σ) z σ 0 0 5 [some (.ref a), some (.int (nI i)), some (.int (nI m)), some (.int (nI (ftA it i m ab))), some (.int (nI ab)), o5, o6, o7, o8, o9, o10] [] from H (m + 2) 0 none none none none none none (by omega) (by omega)
  intro ka
  induction ka with
  | zero => intro ab o5 o6 o7 o8 o9 o10 h1 h2; exact absurd h2 (by omega)
  | succ ka ih =>
    intro ab o5 o6 o7 o8 o9 o10 h1 h2
    refine j_iload dX5_waysToFit_5 rfl ?_
    refine j_iload_n dX5_waysToFit_7 rfl rfl ?_
    refine j_icmp_gtN 174 dX5_waysToFit_8 (by decide) (by omega) (by omega) (fun b8 => ?_) (fun b8 => ?_)
    · obtain rfl : ab = m + 1 := by omega
      refine j_iload_n dX5_waysToFit_174 rfl rfl ?_
      exact j_iret rfl dX5_waysToFit_175 rfl rfl (Nat.le_of_ble_eq_true rfl) (Nat.le_of_ble_eq_true rfl)
    · refine j_aload_n dX5_waysToFit_11 rfl rfl ?_
      refine j_iload_n dX5_waysToFit_12 rfl rfl ?_
      refine j_iald dX5_waysToFit_13 hs rfl (by omega) (by decide) ?_
      refine j_iload dX5_waysToFit_14 rfl ?_
      refine j_isub dX5_waysToFit_16 ?_
      refine j_istore dX5_waysToFit_17 (Nat.le_of_ble_eq_true rfl) rfl ?_
      refine j_iconst (nI 0) dX5_waysToFit_19 rfl ?_
      refine j_istore dX5_waysToFit_20 (Nat.le_of_ble_eq_true rfl) rfl ?_
      suffices H2 : ∀ (kb ba : Nat) (o7 o8 o9 o10 : Option Value), ba ≤ m + 1 → m + 1 < ba + kb → J G RX5 cX5_waysToFit 11 (some .int) (TQ G 2 0 0 (some (.int (nI (ftA it i m (m + 1))))) z σ) z σ 0 0 22 [some (.ref a), some (.int (nI i)), some (.int (nI m)), some (.int (nI (ftB it i m ab (ftA it i m ab) ba))), some (.int (nI ab)), some (.int (it i - nI ab)), some (.int (nI ba)), o7, o8, o9, o10] [] from H2 (m + 2) 0 _ _ _ _ (by omega) (by omega)
      intro kb
      induction kb with
      | zero => intro ba o7 o8 o9 o10 h3 h4; exact absurd h4 (by omega)
      | succ kb ih2 =>
        intro ba o7 o8 o9 o10 h3 h4
        refine j_iload dX5_waysToFit_22 rfl ?_
        refine j_iload_n dX5_waysToFit_24 rfl rfl ?_
        refine j_icmp_gtN 168 dX5_waysToFit_25 (by decide) (by omega) (by omega) (fun b25 => ?_) (fun b25 => ?_)
        · obtain rfl : ba = m + 1 := by omega
          first | refine j_iincN dX5_waysToFit_168 rfl (Nat.le_of_ble_eq_true rfl) rfl ?_ | refine j_iinc _ dX5_waysToFit_168 rfl rfl (Nat.le_of_ble_eq_true rfl) rfl ?_
          refine j_goto 5 dX5_waysToFit_171 (by decide) ?_
          exact ih (ab + 1) _ _ _ _ _ _ (by omega) (by omega)
        · refine j_aload_n dX5_waysToFit_28 rfl rfl ?_
          refine j_iload_n dX5_waysToFit_29 rfl rfl ?_
          refine j_iconst (nI 1) dX5_waysToFit_30 rfl ?_
          refine j_iadd dX5_waysToFit_31 ?_
          refine j_iald dX5_waysToFit_32 hs (nI_add _ _) (by omega) (by decide) ?_
          refine j_iload dX5_waysToFit_33 rfl ?_
          refine j_isub dX5_waysToFit_35 ?_
          refine j_istore dX5_waysToFit_36 (Nat.le_of_ble_eq_true rfl) rfl ?_
          refine j_iconst (nI 0) dX5_waysToFit_38 rfl ?_
          refine j_istore dX5_waysToFit_39 (Nat.le_of_ble_eq_true rfl) rfl ?_
          suffices H3 : ∀ (kc ca : Nat) (o9 o10 : Option Value), ca ≤ m + 1 → m + 1 < ca + kc → J G RX5 cX5_waysToFit 11 (some .int) (TQ G 2 0 0 (some (.int (nI (ftA it i m (m + 1))))) z σ) z σ 0 0 41 [some (.ref a), some (.int (nI i)), some (.int (nI m)), some (.int (nI (ftN it i m ab ba (ftB it i m ab (ftA it i m ab) ba) ca))), some (.int (nI ab)), some (.int (it i - nI ab)), some (.int (nI ba)), some (.int (it (i + 1) - nI ba)), some (.int (nI ca)), o9, o10] [] from H3 (m + 2) 0 _ _ (by omega) (by omega)
          intro kc
          induction kc with
          | zero => intro ca o9 o10 h5 h6; exact absurd h6 (by omega)
          | succ kc ih3 =>
            intro ca o9 o10 h5 h6
            have e1 : ftN it i m ab ba (ftB it i m ab (ftA it i m ab) ba) (ca + 1) = @ite Nat (ftC it i m ab ba ca) (Classical.propDecidable _) (ftN it i m ab ba (ftB it i m ab (ftA it i m ab) ba) ca + 1) (ftN it i m ab ba (ftB it i m ab (ftA it i m ab) ba) ca) := rfl
            refine j_iload dX5_waysToFit_41 rfl ?_
            refine j_iload_n dX5_waysToFit_43 rfl rfl ?_
            refine j_icmp_gtN 162 dX5_waysToFit_44 (by decide) (by omega) (by omega) (fun b44 => ?_) (fun b44 => ?_)
            · obtain rfl : ca = m + 1 := by omega
              first | refine j_iincN dX5_waysToFit_162 rfl (Nat.le_of_ble_eq_true rfl) rfl ?_ | refine j_iinc _ dX5_waysToFit_162 rfl rfl (Nat.le_of_ble_eq_true rfl) rfl ?_
              refine j_goto 22 dX5_waysToFit_165 (by decide) ?_
              exact ih2 (ba + 1) _ _ _ _ (by omega) (by omega)
            · refine j_aload_n dX5_waysToFit_47 rfl rfl ?_
              refine j_iload_n dX5_waysToFit_48 rfl rfl ?_
              refine j_iconst (nI 2) dX5_waysToFit_49 rfl ?_
              refine j_iadd dX5_waysToFit_50 ?_
              refine j_iald dX5_waysToFit_51 hs (nI_add _ _) (by omega) (by decide) ?_
              refine j_iload dX5_waysToFit_52 rfl ?_
              refine j_isub dX5_waysToFit_54 ?_
              refine j_istore dX5_waysToFit_55 (Nat.le_of_ble_eq_true rfl) rfl ?_
              refine j_iload dX5_waysToFit_57 rfl ?_
              refine j_iload_n dX5_waysToFit_59 rfl rfl ?_
              refine j_callS (c_isWithin _ m) dX5_waysToFit_60 rfl ms_X5_259 ⟨(Nat.le_of_ble_eq_true rfl), (Nat.le_of_ble_eq_true rfl)⟩ ⟨(Nat.le_of_ble_eq_true rfl), (Nat.le_of_ble_eq_true rfl)⟩ (Nat.le_of_ble_eq_true rfl) ?_
              refine j_if_eq 88 dX5_waysToFit_63 (by decide) (fun b63 => ?_) (fun b63 => ?_)
              · refine j_iconst (nI 0) dX5_waysToFit_88 rfl ?_
                refine j_istore dX5_waysToFit_89 (Nat.le_of_ble_eq_true rfl) rfl ?_
                refine j_iload dX5_waysToFit_91 rfl ?_
                refine j_if_eq 156 dX5_waysToFit_93 (by decide) (fun _ => ?_) (fun h => absurd rfl h)
                first | refine j_iincN dX5_waysToFit_156 rfl (Nat.le_of_ble_eq_true rfl) rfl ?_ | refine j_iinc _ dX5_waysToFit_156 rfl rfl (Nat.le_of_ble_eq_true rfl) rfl ?_
                refine j_goto 41 dX5_waysToFit_159 (by decide) ?_
                have ih4 := fun o9 o10 => ih3 (ca + 1) o9 o10 (by omega) (by omega)
                rw [e1] at ih4
                by_cases hC : ftC it i m ab ba ca
                · rw [if_pos hC] at ih4
                  first | exact absurd b63 hC.1.1 | exact absurd b72 hC.1.2.1 | exact absurd b81 hC.1.2.2 | exact absurd hC.2.1 b112 | exact absurd hC.2.2.1 b131 | exact absurd hC.2.2.2 b150 | exact ih4 _ _
                · rw [if_neg hC] at ih4
                  first | exact ih4 _ _ | exact absurd ⟨⟨b63, b72, b81⟩, b112, b131, b150⟩ hC
              · refine j_iload dX5_waysToFit_66 rfl ?_
                refine j_iload_n dX5_waysToFit_68 rfl rfl ?_
                refine j_callS (c_isWithin _ m) dX5_waysToFit_69 rfl ms_X5_259 ⟨(Nat.le_of_ble_eq_true rfl), (Nat.le_of_ble_eq_true rfl)⟩ ⟨(Nat.le_of_ble_eq_true rfl), (Nat.le_of_ble_eq_true rfl)⟩ (Nat.le_of_ble_eq_true rfl) ?_
                refine j_if_eq 88 dX5_waysToFit_72 (by decide) (fun b72 => ?_) (fun b72 => ?_)
                · refine j_iconst (nI 0) dX5_waysToFit_88 rfl ?_
                  refine j_istore dX5_waysToFit_89 (Nat.le_of_ble_eq_true rfl) rfl ?_
                  refine j_iload dX5_waysToFit_91 rfl ?_
                  refine j_if_eq 156 dX5_waysToFit_93 (by decide) (fun _ => ?_) (fun h => absurd rfl h)
                  first | refine j_iincN dX5_waysToFit_156 rfl (Nat.le_of_ble_eq_true rfl) rfl ?_ | refine j_iinc _ dX5_waysToFit_156 rfl rfl (Nat.le_of_ble_eq_true rfl) rfl ?_
                  refine j_goto 41 dX5_waysToFit_159 (by decide) ?_
                  have ih4 := fun o9 o10 => ih3 (ca + 1) o9 o10 (by omega) (by omega)
                  rw [e1] at ih4
                  by_cases hC : ftC it i m ab ba ca
                  · rw [if_pos hC] at ih4
                    first | exact absurd b63 hC.1.1 | exact absurd b72 hC.1.2.1 | exact absurd b81 hC.1.2.2 | exact absurd hC.2.1 b112 | exact absurd hC.2.2.1 b131 | exact absurd hC.2.2.2 b150 | exact ih4 _ _
                  · rw [if_neg hC] at ih4
                    first | exact ih4 _ _ | exact absurd ⟨⟨b63, b72, b81⟩, b112, b131, b150⟩ hC
                · refine j_iload dX5_waysToFit_75 rfl ?_
                  refine j_iload_n dX5_waysToFit_77 rfl rfl ?_
                  refine j_callS (c_isWithin _ m) dX5_waysToFit_78 rfl ms_X5_259 ⟨(Nat.le_of_ble_eq_true rfl), (Nat.le_of_ble_eq_true rfl)⟩ ⟨(Nat.le_of_ble_eq_true rfl), (Nat.le_of_ble_eq_true rfl)⟩ (Nat.le_of_ble_eq_true rfl) ?_
                  refine j_if_eq 88 dX5_waysToFit_81 (by decide) (fun b81 => ?_) (fun b81 => ?_)
                  · refine j_iconst (nI 0) dX5_waysToFit_88 rfl ?_
                    refine j_istore dX5_waysToFit_89 (Nat.le_of_ble_eq_true rfl) rfl ?_
                    refine j_iload dX5_waysToFit_91 rfl ?_
                    refine j_if_eq 156 dX5_waysToFit_93 (by decide) (fun _ => ?_) (fun h => absurd rfl h)
                    first | refine j_iincN dX5_waysToFit_156 rfl (Nat.le_of_ble_eq_true rfl) rfl ?_ | refine j_iinc _ dX5_waysToFit_156 rfl rfl (Nat.le_of_ble_eq_true rfl) rfl ?_
                    refine j_goto 41 dX5_waysToFit_159 (by decide) ?_
                    have ih4 := fun o9 o10 => ih3 (ca + 1) o9 o10 (by omega) (by omega)
                    rw [e1] at ih4
                    by_cases hC : ftC it i m ab ba ca
                    · rw [if_pos hC] at ih4
                      first | exact absurd b63 hC.1.1 | exact absurd b72 hC.1.2.1 | exact absurd b81 hC.1.2.2 | exact absurd hC.2.1 b112 | exact absurd hC.2.2.1 b131 | exact absurd hC.2.2.2 b150 | exact ih4 _ _
                    · rw [if_neg hC] at ih4
                      first | exact ih4 _ _ | exact absurd ⟨⟨b63, b72, b81⟩, b112, b131, b150⟩ hC
                  · refine j_iconst (nI 1) dX5_waysToFit_84 rfl ?_
                    refine j_goto 89 dX5_waysToFit_85 (by decide) ?_
                    refine j_istore dX5_waysToFit_89 (Nat.le_of_ble_eq_true rfl) rfl ?_
                    refine j_iload dX5_waysToFit_91 rfl ?_
                    refine j_if_eq 156 dX5_waysToFit_93 (by decide) (fun h => absurd h (by decide)) (fun _ => ?_)
                    refine j_iload dX5_waysToFit_96 rfl ?_
                    refine j_iload dX5_waysToFit_98 rfl ?_
                    refine j_iadd dX5_waysToFit_100 ?_
                    refine j_iload dX5_waysToFit_101 rfl ?_
                    refine j_isub dX5_waysToFit_103 ?_
                    refine j_iload dX5_waysToFit_104 rfl ?_
                    refine j_isub dX5_waysToFit_106 ?_
                    refine j_aload_n dX5_waysToFit_107 rfl rfl ?_
                    refine j_iload_n dX5_waysToFit_108 rfl rfl ?_
                    refine j_iconst (nI 3) dX5_waysToFit_109 rfl ?_
                    refine j_iadd dX5_waysToFit_110 ?_
                    refine j_iald dX5_waysToFit_111 hs (nI_add _ _) (by omega) (by decide) ?_
                    refine j_icmp_ne 156 dX5_waysToFit_112 (by decide) (fun b112 => ?_) (fun b112 => ?_)
                    · first | refine j_iincN dX5_waysToFit_156 rfl (Nat.le_of_ble_eq_true rfl) rfl ?_ | refine j_iinc _ dX5_waysToFit_156 rfl rfl (Nat.le_of_ble_eq_true rfl) rfl ?_
                      refine j_goto 41 dX5_waysToFit_159 (by decide) ?_
                      have ih4 := fun o9 o10 => ih3 (ca + 1) o9 o10 (by omega) (by omega)
                      rw [e1] at ih4
                      by_cases hC : ftC it i m ab ba ca
                      · rw [if_pos hC] at ih4
                        first | exact absurd b63 hC.1.1 | exact absurd b72 hC.1.2.1 | exact absurd b81 hC.1.2.2 | exact absurd hC.2.1 b112 | exact absurd hC.2.2.1 b131 | exact absurd hC.2.2.2 b150 | exact ih4 _ _
                      · rw [if_neg hC] at ih4
                        first | exact ih4 _ _ | exact absurd ⟨⟨b63, b72, b81⟩, b112, b131, b150⟩ hC
                    · refine j_iload dX5_waysToFit_115 rfl ?_
                      refine j_iload dX5_waysToFit_117 rfl ?_
                      refine j_iadd dX5_waysToFit_119 ?_
                      refine j_iload dX5_waysToFit_120 rfl ?_
                      refine j_isub dX5_waysToFit_122 ?_
                      refine j_iload dX5_waysToFit_123 rfl ?_
                      refine j_isub dX5_waysToFit_125 ?_
                      refine j_aload_n dX5_waysToFit_126 rfl rfl ?_
                      refine j_iload_n dX5_waysToFit_127 rfl rfl ?_
                      refine j_iconst (nI 4) dX5_waysToFit_128 rfl ?_
                      refine j_iadd dX5_waysToFit_129 ?_
                      refine j_iald dX5_waysToFit_130 hs (nI_add _ _) (by omega) (by decide) ?_
                      refine j_icmp_ne 156 dX5_waysToFit_131 (by decide) (fun b131 => ?_) (fun b131 => ?_)
                      · first | refine j_iincN dX5_waysToFit_156 rfl (Nat.le_of_ble_eq_true rfl) rfl ?_ | refine j_iinc _ dX5_waysToFit_156 rfl rfl (Nat.le_of_ble_eq_true rfl) rfl ?_
                        refine j_goto 41 dX5_waysToFit_159 (by decide) ?_
                        have ih4 := fun o9 o10 => ih3 (ca + 1) o9 o10 (by omega) (by omega)
                        rw [e1] at ih4
                        by_cases hC : ftC it i m ab ba ca
                        · rw [if_pos hC] at ih4
                          first | exact absurd b63 hC.1.1 | exact absurd b72 hC.1.2.1 | exact absurd b81 hC.1.2.2 | exact absurd hC.2.1 b112 | exact absurd hC.2.2.1 b131 | exact absurd hC.2.2.2 b150 | exact ih4 _ _
                        · rw [if_neg hC] at ih4
                          first | exact ih4 _ _ | exact absurd ⟨⟨b63, b72, b81⟩, b112, b131, b150⟩ hC
                      · refine j_iload dX5_waysToFit_134 rfl ?_
                        refine j_iload dX5_waysToFit_136 rfl ?_
                        refine j_iadd dX5_waysToFit_138 ?_
                        refine j_iload dX5_waysToFit_139 rfl ?_
                        refine j_isub dX5_waysToFit_141 ?_
                        refine j_iload dX5_waysToFit_142 rfl ?_
                        refine j_isub dX5_waysToFit_144 ?_
                        refine j_aload_n dX5_waysToFit_145 rfl rfl ?_
                        refine j_iload_n dX5_waysToFit_146 rfl rfl ?_
                        refine j_iconst (nI 5) dX5_waysToFit_147 rfl ?_
                        refine j_iadd dX5_waysToFit_148 ?_
                        refine j_iald dX5_waysToFit_149 hs (nI_add _ _) (by omega) (by decide) ?_
                        refine j_icmp_ne 156 dX5_waysToFit_150 (by decide) (fun b150 => ?_) (fun b150 => ?_)
                        · first | refine j_iincN dX5_waysToFit_156 rfl (Nat.le_of_ble_eq_true rfl) rfl ?_ | refine j_iinc _ dX5_waysToFit_156 rfl rfl (Nat.le_of_ble_eq_true rfl) rfl ?_
                          refine j_goto 41 dX5_waysToFit_159 (by decide) ?_
                          have ih4 := fun o9 o10 => ih3 (ca + 1) o9 o10 (by omega) (by omega)
                          rw [e1] at ih4
                          by_cases hC : ftC it i m ab ba ca
                          · rw [if_pos hC] at ih4
                            first | exact absurd b63 hC.1.1 | exact absurd b72 hC.1.2.1 | exact absurd b81 hC.1.2.2 | exact absurd hC.2.1 b112 | exact absurd hC.2.2.1 b131 | exact absurd hC.2.2.2 b150 | exact ih4 _ _
                          · rw [if_neg hC] at ih4
                            first | exact ih4 _ _ | exact absurd ⟨⟨b63, b72, b81⟩, b112, b131, b150⟩ hC
                        · first | refine j_iincN dX5_waysToFit_153 rfl (Nat.le_of_ble_eq_true rfl) rfl ?_ | refine j_iinc _ dX5_waysToFit_153 rfl rfl (Nat.le_of_ble_eq_true rfl) rfl ?_
                          first | refine j_iincN dX5_waysToFit_156 rfl (Nat.le_of_ble_eq_true rfl) rfl ?_ | refine j_iinc _ dX5_waysToFit_156 rfl rfl (Nat.le_of_ble_eq_true rfl) rfl ?_
                          refine j_goto 41 dX5_waysToFit_159 (by decide) ?_
                          have ih4 := fun o9 o10 => ih3 (ca + 1) o9 o10 (by omega) (by omega)
                          rw [e1] at ih4
                          by_cases hC : ftC it i m ab ba ca
                          · rw [if_pos hC] at ih4
                            first | exact absurd b63 hC.1.1 | exact absurd b72 hC.1.2.1 | exact absurd b81 hC.1.2.2 | exact absurd hC.2.1 b112 | exact absurd hC.2.2.1 b131 | exact absurd hC.2.2.2 b150 | exact ih4 _ _
                          · rw [if_neg hC] at ih4
                            first | exact ih4 _ _ | exact absurd ⟨⟨b63, b72, b81⟩, b112, b131, b150⟩ hC
end O7

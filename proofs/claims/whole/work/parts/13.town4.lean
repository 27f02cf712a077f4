/-! THE TOWN: counting, who lends, who is seen; copies; a quarter -/
def clrI (x : Int32) (k : Nat) : Int32 := x &&& ((nI 1 <<< (nI k &&& 31)) ^^^ (-1))
def drawX (seed : Int32) : Nat → Int64
  | 0 => seed.toInt64
  | p + 1 => drawX seed p * 16807 - drawX seed p * 16807 / 2147483647 * 2147483647
def drawnI (x : Int64) (v : Int32) : Int32 := (x - x / (v + nI 1).toInt64 * (v + nI 1).toInt64).toInt32
def incC (seed : Int32) (inc ca : Nat → Int32) : Nat → Nat → Int32
  | 0 => ca
  | p + 1 => upd (incC seed inc ca p) p (incC seed inc ca p p + (if seed = 0 then inc p else drawnI (drawX seed (p + 1)) (inc p)))
/-- all are TO PAY: cash, debts, who has FAILED -/
def alS (N : Nat) (ca de : Nat → Int32) (fa : Int32) : Nat → (Nat → Int32) × (Nat → Int32) × Int32
  | 0 => (ca, de, fa)
  | p + 1 => ((stl p (alS N ca de fa p).1 (alS N ca de fa p).2.1 N).1, (stl p (alS N ca de fa p).1 (alS N ca de fa p).2.1 N).2.1,
      if dsum (stl p (alS N ca de fa p).1 (alS N ca de fa p).2.1 N).2.1 N p = 0 then clrI (if 0 < dsum (alS N ca de fa p).2.1 N p ∧ ¬ 0 < (stl p (alS N ca de fa p).1 (alS N ca de fa p).2.1 N).2.2 then orI (alS N ca de fa p).2.2 p else (alS N ca de fa p).2.2) p
      else (if 0 < dsum (alS N ca de fa p).2.1 N p ∧ ¬ 0 < (stl p (alS N ca de fa p).1 (alS N ca de fa p).2.1 N).2.2 then orI (alS N ca de fa p).2.2 p else (alS N ca de fa p).2.2))
def fgv (un : Int32) (de : Nat → Int32) : Nat → Nat → Int32
  | 0 => de
  | k + 1 => if un ≤ fgv un de k k then fgv un de k else upd (fgv un de k) k (nI 0)
def grw (ra : Int32) (de : Nat → Int32) : Nat → Nat → Int32
  | 0 => de
  | k + 1 => upd (grw ra de k) k (minI (grw ra de k k + ra * grw ra de k k / nI 100) 99999)
def fil (x : Int32) (f : Nat → Int32) : Nat → Nat → Int32
  | 0 => f
  | k + 1 => upd (fil x f k) k x
theorem dX4_drawn_0 : decode cX4_drawn 0 = .ok (.iload_n 2, 1) := by decide +kernel
theorem dX4_drawn_1 : decode cX4_drawn 1 = .ok (.ifCond .ge 7, 3) := by decide +kernel
theorem dX4_drawn_4 : decode cX4_drawn 4 = .ok (.iconst 0, 1) := by decide +kernel
theorem dX4_drawn_5 : decode cX4_drawn 5 = .ok (.goto 10, 3) := by decide +kernel
theorem dX4_drawn_8 : decode cX4_drawn 8 = .ok (.lload_n 0, 1) := by decide +kernel
theorem dX4_drawn_9 : decode cX4_drawn 9 = .ok (.iload_n 2, 1) := by decide +kernel
theorem dX4_drawn_10 : decode cX4_drawn 10 = .ok (.iconst 1, 1) := by decide +kernel
theorem dX4_drawn_11 : decode cX4_drawn 11 = .ok (.iadd, 1) := by decide +kernel
theorem dX4_drawn_12 : decode cX4_drawn 12 = .ok (.i2l, 1) := by decide +kernel
theorem dX4_drawn_13 : decode cX4_drawn 13 = .ok (.lrem, 1) := by decide +kernel
theorem dX4_drawn_14 : decode cX4_drawn 14 = .ok (.l2i, 1) := by decide +kernel
theorem dX4_drawn_15 : decode cX4_drawn 15 = .ok (.ireturn, 1) := by decide +kernel
theorem dX4_incomesCome_0 : decode cX4_incomesCome 0 = .ok (.iload_n 1, 1) := by decide +kernel
theorem dX4_incomesCome_1 : decode cX4_incomesCome 1 = .ok (.i2l, 1) := by decide +kernel
theorem dX4_incomesCome_2 : decode cX4_incomesCome 2 = .ok (.lstore_n 2, 1) := by decide +kernel
theorem dX4_incomesCome_3 : decode cX4_incomesCome 3 = .ok (.iconst 0, 1) := by decide +kernel
theorem dX4_incomesCome_4 : decode cX4_incomesCome 4 = .ok (.istore 4, 2) := by decide +kernel
theorem dX4_incomesCome_6 : decode cX4_incomesCome 6 = .ok (.iload 4, 2) := by decide +kernel
theorem dX4_incomesCome_8 : decode cX4_incomesCome 8 = .ok (.aload_n 0, 1) := by decide +kernel
theorem dX4_incomesCome_9 : decode cX4_incomesCome 9 = .ok (.getfield 34, 3) := by decide +kernel
theorem dX4_incomesCome_12 : decode cX4_incomesCome 12 = .ok (.if_icmp .ge 54, 3) := by decide +kernel
theorem dX4_incomesCome_15 : decode cX4_incomesCome 15 = .ok (.lload_n 2, 1) := by decide +kernel
theorem dX4_incomesCome_16 : decode cX4_incomesCome 16 = .ok (.ldc2_w 97, 3) := by decide +kernel
theorem dX4_incomesCome_19 : decode cX4_incomesCome 19 = .ok (.lmul, 1) := by decide +kernel
theorem dX4_incomesCome_20 : decode cX4_incomesCome 20 = .ok (.ldc2_w 99, 3) := by decide +kernel
theorem dX4_incomesCome_23 : decode cX4_incomesCome 23 = .ok (.lrem, 1) := by decide +kernel
theorem dX4_incomesCome_24 : decode cX4_incomesCome 24 = .ok (.lstore_n 2, 1) := by decide +kernel
theorem dX4_incomesCome_25 : decode cX4_incomesCome 25 = .ok (.aload_n 0, 1) := by decide +kernel
theorem dX4_incomesCome_26 : decode cX4_incomesCome 26 = .ok (.getfield 9, 3) := by decide +kernel
theorem dX4_incomesCome_29 : decode cX4_incomesCome 29 = .ok (.iload 4, 2) := by decide +kernel
theorem dX4_incomesCome_31 : decode cX4_incomesCome 31 = .ok (.dup2, 1) := by decide +kernel
theorem dX4_incomesCome_32 : decode cX4_incomesCome 32 = .ok (.iaload, 1) := by decide +kernel
theorem dX4_incomesCome_33 : decode cX4_incomesCome 33 = .ok (.iload_n 1, 1) := by decide +kernel
theorem dX4_incomesCome_34 : decode cX4_incomesCome 34 = .ok (.ifCond .ne 13, 3) := by decide +kernel
theorem dX4_incomesCome_37 : decode cX4_incomesCome 37 = .ok (.aload_n 0, 1) := by decide +kernel
theorem dX4_incomesCome_38 : decode cX4_incomesCome 38 = .ok (.getfield 15, 3) := by decide +kernel
theorem dX4_incomesCome_41 : decode cX4_incomesCome 41 = .ok (.iload 4, 2) := by decide +kernel
theorem dX4_incomesCome_43 : decode cX4_incomesCome 43 = .ok (.iaload, 1) := by decide +kernel
theorem dX4_incomesCome_44 : decode cX4_incomesCome 44 = .ok (.goto 14, 3) := by decide +kernel
theorem dX4_incomesCome_47 : decode cX4_incomesCome 47 = .ok (.lload_n 2, 1) := by decide +kernel
theorem dX4_incomesCome_48 : decode cX4_incomesCome 48 = .ok (.aload_n 0, 1) := by decide +kernel
theorem dX4_incomesCome_49 : decode cX4_incomesCome 49 = .ok (.getfield 15, 3) := by decide +kernel
theorem dX4_incomesCome_52 : decode cX4_incomesCome 52 = .ok (.iload 4, 2) := by decide +kernel
theorem dX4_incomesCome_54 : decode cX4_incomesCome 54 = .ok (.iaload, 1) := by decide +kernel
theorem dX4_incomesCome_55 : decode cX4_incomesCome 55 = .ok (.invokestatic 101, 3) := by decide +kernel
theorem dX4_incomesCome_58 : decode cX4_incomesCome 58 = .ok (.iadd, 1) := by decide +kernel
theorem dX4_incomesCome_59 : decode cX4_incomesCome 59 = .ok (.iastore, 1) := by decide +kernel
theorem dX4_incomesCome_60 : decode cX4_incomesCome 60 = .ok (.iinc 4 1, 3) := by decide +kernel
theorem dX4_incomesCome_63 : decode cX4_incomesCome 63 = .ok (.goto (-57), 3) := by decide +kernel
theorem dX4_incomesCome_66 : decode cX4_incomesCome 66 = .ok (.return_, 1) := by decide +kernel
theorem dX4_allSettle_0 : decode cX4_allSettle 0 = .ok (.iconst 0, 1) := by decide +kernel
theorem dX4_allSettle_1 : decode cX4_allSettle 1 = .ok (.istore_n 1, 1) := by decide +kernel
theorem dX4_allSettle_2 : decode cX4_allSettle 2 = .ok (.iload_n 1, 1) := by decide +kernel
theorem dX4_allSettle_3 : decode cX4_allSettle 3 = .ok (.aload_n 0, 1) := by decide +kernel
theorem dX4_allSettle_4 : decode cX4_allSettle 4 = .ok (.getfield 34, 3) := by decide +kernel
theorem dX4_allSettle_7 : decode cX4_allSettle 7 = .ok (.if_icmp .ge 79, 3) := by decide +kernel
theorem dX4_allSettle_10 : decode cX4_allSettle 10 = .ok (.aload_n 0, 1) := by decide +kernel
theorem dX4_allSettle_11 : decode cX4_allSettle 11 = .ok (.iload_n 1, 1) := by decide +kernel
theorem dX4_allSettle_12 : decode cX4_allSettle 12 = .ok (.invokevirtual 53, 3) := by decide +kernel
theorem dX4_allSettle_15 : decode cX4_allSettle 15 = .ok (.ifCond .le 7, 3) := by decide +kernel
theorem dX4_allSettle_18 : decode cX4_allSettle 18 = .ok (.iconst 1, 1) := by decide +kernel
theorem dX4_allSettle_19 : decode cX4_allSettle 19 = .ok (.goto 4, 3) := by decide +kernel
theorem dX4_allSettle_22 : decode cX4_allSettle 22 = .ok (.iconst 0, 1) := by decide +kernel
theorem dX4_allSettle_23 : decode cX4_allSettle 23 = .ok (.istore_n 2, 1) := by decide +kernel
theorem dX4_allSettle_24 : decode cX4_allSettle 24 = .ok (.aload_n 0, 1) := by decide +kernel
theorem dX4_allSettle_25 : decode cX4_allSettle 25 = .ok (.iload_n 1, 1) := by decide +kernel
theorem dX4_allSettle_26 : decode cX4_allSettle 26 = .ok (.invokevirtual 78, 3) := by decide +kernel
theorem dX4_allSettle_29 : decode cX4_allSettle 29 = .ok (.ifCond .le 7, 3) := by decide +kernel
theorem dX4_allSettle_32 : decode cX4_allSettle 32 = .ok (.iconst 1, 1) := by decide +kernel
theorem dX4_allSettle_33 : decode cX4_allSettle 33 = .ok (.goto 4, 3) := by decide +kernel
theorem dX4_allSettle_36 : decode cX4_allSettle 36 = .ok (.iconst 0, 1) := by decide +kernel
theorem dX4_allSettle_37 : decode cX4_allSettle 37 = .ok (.istore_n 3, 1) := by decide +kernel
theorem dX4_allSettle_38 : decode cX4_allSettle 38 = .ok (.iload_n 2, 1) := by decide +kernel
theorem dX4_allSettle_39 : decode cX4_allSettle 39 = .ok (.ifCond .eq 19, 3) := by decide +kernel
theorem dX4_allSettle_42 : decode cX4_allSettle 42 = .ok (.iload_n 3, 1) := by decide +kernel
theorem dX4_allSettle_43 : decode cX4_allSettle 43 = .ok (.ifCond .ne 15, 3) := by decide +kernel
theorem dX4_allSettle_46 : decode cX4_allSettle 46 = .ok (.aload_n 0, 1) := by decide +kernel
theorem dX4_allSettle_47 : decode cX4_allSettle 47 = .ok (.dup, 1) := by decide +kernel
theorem dX4_allSettle_48 : decode cX4_allSettle 48 = .ok (.getfield 46, 3) := by decide +kernel
theorem dX4_allSettle_51 : decode cX4_allSettle 51 = .ok (.iconst 1, 1) := by decide +kernel
theorem dX4_allSettle_52 : decode cX4_allSettle 52 = .ok (.iload_n 1, 1) := by decide +kernel
theorem dX4_allSettle_53 : decode cX4_allSettle 53 = .ok (.ishl, 1) := by decide +kernel
theorem dX4_allSettle_54 : decode cX4_allSettle 54 = .ok (.ior, 1) := by decide +kernel
theorem dX4_allSettle_55 : decode cX4_allSettle 55 = .ok (.putfield 46, 3) := by decide +kernel
theorem dX4_allSettle_58 : decode cX4_allSettle 58 = .ok (.aload_n 0, 1) := by decide +kernel
theorem dX4_allSettle_59 : decode cX4_allSettle 59 = .ok (.iload_n 1, 1) := by decide +kernel
theorem dX4_allSettle_60 : decode cX4_allSettle 60 = .ok (.invokevirtual 53, 3) := by decide +kernel
theorem dX4_allSettle_63 : decode cX4_allSettle 63 = .ok (.ifCond .ne 17, 3) := by decide +kernel
theorem dX4_allSettle_66 : decode cX4_allSettle 66 = .ok (.aload_n 0, 1) := by decide +kernel
theorem dX4_allSettle_67 : decode cX4_allSettle 67 = .ok (.dup, 1) := by decide +kernel
theorem dX4_allSettle_68 : decode cX4_allSettle 68 = .ok (.getfield 46, 3) := by decide +kernel
theorem dX4_allSettle_71 : decode cX4_allSettle 71 = .ok (.iconst 1, 1) := by decide +kernel
theorem dX4_allSettle_72 : decode cX4_allSettle 72 = .ok (.iload_n 1, 1) := by decide +kernel
theorem dX4_allSettle_73 : decode cX4_allSettle 73 = .ok (.ishl, 1) := by decide +kernel
theorem dX4_allSettle_74 : decode cX4_allSettle 74 = .ok (.iconst (-1), 1) := by decide +kernel
theorem dX4_allSettle_75 : decode cX4_allSettle 75 = .ok (.ixor, 1) := by decide +kernel
theorem dX4_allSettle_76 : decode cX4_allSettle 76 = .ok (.iand, 1) := by decide +kernel
theorem dX4_allSettle_77 : decode cX4_allSettle 77 = .ok (.putfield 46, 3) := by decide +kernel
theorem dX4_allSettle_80 : decode cX4_allSettle 80 = .ok (.iinc 1 1, 3) := by decide +kernel
theorem dX4_allSettle_83 : decode cX4_allSettle 83 = .ok (.goto (-81), 3) := by decide +kernel
theorem dX4_allSettle_86 : decode cX4_allSettle 86 = .ok (.return_, 1) := by decide +kernel
theorem dX4_smallDebtsAreForgiven_0 : decode cX4_smallDebtsAreForgiven 0 = .ok (.iconst 0, 1) := by decide +kernel
theorem dX4_smallDebtsAreForgiven_1 : decode cX4_smallDebtsAreForgiven 1 = .ok (.istore_n 1, 1) := by decide +kernel
theorem dX4_smallDebtsAreForgiven_2 : decode cX4_smallDebtsAreForgiven 2 = .ok (.iload_n 1, 1) := by decide +kernel
theorem dX4_smallDebtsAreForgiven_3 : decode cX4_smallDebtsAreForgiven 3 = .ok (.bipush 49, 2) := by decide +kernel
theorem dX4_smallDebtsAreForgiven_5 : decode cX4_smallDebtsAreForgiven 5 = .ok (.if_icmp .ge 29, 3) := by decide +kernel
theorem dX4_smallDebtsAreForgiven_8 : decode cX4_smallDebtsAreForgiven 8 = .ok (.aload_n 0, 1) := by decide +kernel
theorem dX4_smallDebtsAreForgiven_9 : decode cX4_smallDebtsAreForgiven 9 = .ok (.getfield 21, 3) := by decide +kernel
theorem dX4_smallDebtsAreForgiven_12 : decode cX4_smallDebtsAreForgiven 12 = .ok (.iload_n 1, 1) := by decide +kernel
theorem dX4_smallDebtsAreForgiven_13 : decode cX4_smallDebtsAreForgiven 13 = .ok (.iaload, 1) := by decide +kernel
theorem dX4_smallDebtsAreForgiven_14 : decode cX4_smallDebtsAreForgiven 14 = .ok (.aload_n 0, 1) := by decide +kernel
theorem dX4_smallDebtsAreForgiven_15 : decode cX4_smallDebtsAreForgiven 15 = .ok (.getfield 24, 3) := by decide +kernel
theorem dX4_smallDebtsAreForgiven_18 : decode cX4_smallDebtsAreForgiven 18 = .ok (.if_icmp .ge 10, 3) := by decide +kernel
theorem dX4_smallDebtsAreForgiven_21 : decode cX4_smallDebtsAreForgiven 21 = .ok (.aload_n 0, 1) := by decide +kernel
theorem dX4_smallDebtsAreForgiven_22 : decode cX4_smallDebtsAreForgiven 22 = .ok (.getfield 21, 3) := by decide +kernel
theorem dX4_smallDebtsAreForgiven_25 : decode cX4_smallDebtsAreForgiven 25 = .ok (.iload_n 1, 1) := by decide +kernel
theorem dX4_smallDebtsAreForgiven_26 : decode cX4_smallDebtsAreForgiven 26 = .ok (.iconst 0, 1) := by decide +kernel
theorem dX4_smallDebtsAreForgiven_27 : decode cX4_smallDebtsAreForgiven 27 = .ok (.iastore, 1) := by decide +kernel
theorem dX4_smallDebtsAreForgiven_28 : decode cX4_smallDebtsAreForgiven 28 = .ok (.iinc 1 1, 3) := by decide +kernel
theorem dX4_smallDebtsAreForgiven_31 : decode cX4_smallDebtsAreForgiven 31 = .ok (.goto (-29), 3) := by decide +kernel
theorem dX4_smallDebtsAreForgiven_34 : decode cX4_smallDebtsAreForgiven 34 = .ok (.return_, 1) := by decide +kernel
theorem dX4_debtsGrow_0 : decode cX4_debtsGrow 0 = .ok (.iconst 0, 1) := by decide +kernel
theorem dX4_debtsGrow_1 : decode cX4_debtsGrow 1 = .ok (.istore_n 1, 1) := by decide +kernel
theorem dX4_debtsGrow_2 : decode cX4_debtsGrow 2 = .ok (.iload_n 1, 1) := by decide +kernel
theorem dX4_debtsGrow_3 : decode cX4_debtsGrow 3 = .ok (.bipush 49, 2) := by decide +kernel
theorem dX4_debtsGrow_5 : decode cX4_debtsGrow 5 = .ok (.if_icmp .ge 41, 3) := by decide +kernel
theorem dX4_debtsGrow_8 : decode cX4_debtsGrow 8 = .ok (.aload_n 0, 1) := by decide +kernel
theorem dX4_debtsGrow_9 : decode cX4_debtsGrow 9 = .ok (.getfield 21, 3) := by decide +kernel
theorem dX4_debtsGrow_12 : decode cX4_debtsGrow 12 = .ok (.iload_n 1, 1) := by decide +kernel
theorem dX4_debtsGrow_13 : decode cX4_debtsGrow 13 = .ok (.aload_n 0, 1) := by decide +kernel
theorem dX4_debtsGrow_14 : decode cX4_debtsGrow 14 = .ok (.getfield 21, 3) := by decide +kernel
theorem dX4_debtsGrow_17 : decode cX4_debtsGrow 17 = .ok (.iload_n 1, 1) := by decide +kernel
theorem dX4_debtsGrow_18 : decode cX4_debtsGrow 18 = .ok (.iaload, 1) := by decide +kernel
theorem dX4_debtsGrow_19 : decode cX4_debtsGrow 19 = .ok (.aload_n 0, 1) := by decide +kernel
theorem dX4_debtsGrow_20 : decode cX4_debtsGrow 20 = .ok (.getfield 37, 3) := by decide +kernel
theorem dX4_debtsGrow_23 : decode cX4_debtsGrow 23 = .ok (.aload_n 0, 1) := by decide +kernel
theorem dX4_debtsGrow_24 : decode cX4_debtsGrow 24 = .ok (.getfield 21, 3) := by decide +kernel
theorem dX4_debtsGrow_27 : decode cX4_debtsGrow 27 = .ok (.iload_n 1, 1) := by decide +kernel
theorem dX4_debtsGrow_28 : decode cX4_debtsGrow 28 = .ok (.iaload, 1) := by decide +kernel
theorem dX4_debtsGrow_29 : decode cX4_debtsGrow 29 = .ok (.imul, 1) := by decide +kernel
theorem dX4_debtsGrow_30 : decode cX4_debtsGrow 30 = .ok (.bipush 100, 2) := by decide +kernel
theorem dX4_debtsGrow_32 : decode cX4_debtsGrow 32 = .ok (.idiv, 1) := by decide +kernel
theorem dX4_debtsGrow_33 : decode cX4_debtsGrow 33 = .ok (.iadd, 1) := by decide +kernel
theorem dX4_debtsGrow_34 : decode cX4_debtsGrow 34 = .ok (.ldc 105, 2) := by decide +kernel
theorem dX4_debtsGrow_36 : decode cX4_debtsGrow 36 = .ok (.invokestatic 57, 3) := by decide +kernel
theorem dX4_debtsGrow_39 : decode cX4_debtsGrow 39 = .ok (.iastore, 1) := by decide +kernel
theorem dX4_debtsGrow_40 : decode cX4_debtsGrow 40 = .ok (.iinc 1 1, 3) := by decide +kernel
theorem dX4_debtsGrow_43 : decode cX4_debtsGrow 43 = .ok (.goto (-41), 3) := by decide +kernel
theorem dX4_debtsGrow_46 : decode cX4_debtsGrow 46 = .ok (.return_, 1) := by decide +kernel
theorem dX4_becomesEmpty_0 : decode cX4_becomesEmpty 0 = .ok (.iconst 0, 1) := by decide +kernel
theorem dX4_becomesEmpty_1 : decode cX4_becomesEmpty 1 = .ok (.istore_n 1, 1) := by decide +kernel
theorem dX4_becomesEmpty_2 : decode cX4_becomesEmpty 2 = .ok (.iload_n 1, 1) := by decide +kernel
theorem dX4_becomesEmpty_3 : decode cX4_becomesEmpty 3 = .ok (.bipush 49, 2) := by decide +kernel
theorem dX4_becomesEmpty_5 : decode cX4_becomesEmpty 5 = .ok (.if_icmp .ge 16, 3) := by decide +kernel
theorem dX4_becomesEmpty_8 : decode cX4_becomesEmpty 8 = .ok (.aload_n 0, 1) := by decide +kernel
theorem dX4_becomesEmpty_9 : decode cX4_becomesEmpty 9 = .ok (.getfield 21, 3) := by decide +kernel
theorem dX4_becomesEmpty_12 : decode cX4_becomesEmpty 12 = .ok (.iload_n 1, 1) := by decide +kernel
theorem dX4_becomesEmpty_13 : decode cX4_becomesEmpty 13 = .ok (.iconst 0, 1) := by decide +kernel
theorem dX4_becomesEmpty_14 : decode cX4_becomesEmpty 14 = .ok (.iastore, 1) := by decide +kernel
theorem dX4_becomesEmpty_15 : decode cX4_becomesEmpty 15 = .ok (.iinc 1 1, 3) := by decide +kernel
theorem dX4_becomesEmpty_18 : decode cX4_becomesEmpty 18 = .ok (.goto (-16), 3) := by decide +kernel
theorem dX4_becomesEmpty_21 : decode cX4_becomesEmpty 21 = .ok (.aload_n 0, 1) := by decide +kernel
theorem dX4_becomesEmpty_22 : decode cX4_becomesEmpty 22 = .ok (.iconst 0, 1) := by decide +kernel
theorem dX4_becomesEmpty_23 : decode cX4_becomesEmpty 23 = .ok (.putfield 34, 3) := by decide +kernel
theorem dX4_becomesEmpty_26 : decode cX4_becomesEmpty 26 = .ok (.aload_n 0, 1) := by decide +kernel
theorem dX4_becomesEmpty_27 : decode cX4_becomesEmpty 27 = .ok (.iconst 1, 1) := by decide +kernel
theorem dX4_becomesEmpty_28 : decode cX4_becomesEmpty 28 = .ok (.putfield 24, 3) := by decide +kernel
theorem dX4_becomesEmpty_31 : decode cX4_becomesEmpty 31 = .ok (.aload_n 0, 1) := by decide +kernel
theorem dX4_becomesEmpty_32 : decode cX4_becomesEmpty 32 = .ok (.iconst 0, 1) := by decide +kernel
theorem dX4_becomesEmpty_33 : decode cX4_becomesEmpty 33 = .ok (.putfield 37, 3) := by decide +kernel
theorem dX4_becomesEmpty_36 : decode cX4_becomesEmpty 36 = .ok (.aload_n 0, 1) := by decide +kernel
theorem dX4_becomesEmpty_37 : decode cX4_becomesEmpty 37 = .ok (.iconst 0, 1) := by decide +kernel
theorem dX4_becomesEmpty_38 : decode cX4_becomesEmpty 38 = .ok (.putfield 40, 3) := by decide +kernel
theorem dX4_becomesEmpty_41 : decode cX4_becomesEmpty 41 = .ok (.aload_n 0, 1) := by decide +kernel
theorem dX4_becomesEmpty_42 : decode cX4_becomesEmpty 42 = .ok (.iconst 0, 1) := by decide +kernel
theorem dX4_becomesEmpty_43 : decode cX4_becomesEmpty 43 = .ok (.putfield 43, 3) := by decide +kernel
theorem dX4_becomesEmpty_46 : decode cX4_becomesEmpty 46 = .ok (.aload_n 0, 1) := by decide +kernel
theorem dX4_becomesEmpty_47 : decode cX4_becomesEmpty 47 = .ok (.iconst 0, 1) := by decide +kernel
theorem dX4_becomesEmpty_48 : decode cX4_becomesEmpty 48 = .ok (.putfield 46, 3) := by decide +kernel
theorem dX4_becomesEmpty_51 : decode cX4_becomesEmpty 51 = .ok (.return_, 1) := by decide +kernel
theorem dX4_becomes_0 : decode cX4_becomes 0 = .ok (.aload_n 1, 1) := by decide +kernel
theorem dX4_becomes_1 : decode cX4_becomes 1 = .ok (.getfield 9, 3) := by decide +kernel
theorem dX4_becomes_4 : decode cX4_becomes 4 = .ok (.iconst 0, 1) := by decide +kernel
theorem dX4_becomes_5 : decode cX4_becomes 5 = .ok (.aload_n 0, 1) := by decide +kernel
theorem dX4_becomes_6 : decode cX4_becomes 6 = .ok (.getfield 9, 3) := by decide +kernel
theorem dX4_becomes_9 : decode cX4_becomes 9 = .ok (.iconst 0, 1) := by decide +kernel
theorem dX4_becomes_10 : decode cX4_becomes 10 = .ok (.bipush 7, 2) := by decide +kernel
theorem dX4_becomes_12 : decode cX4_becomes 12 = .ok (.invokestatic 28, 3) := by decide +kernel
theorem dX4_becomes_15 : decode cX4_becomes 15 = .ok (.aload_n 1, 1) := by decide +kernel
theorem dX4_becomes_16 : decode cX4_becomes 16 = .ok (.getfield 15, 3) := by decide +kernel
theorem dX4_becomes_19 : decode cX4_becomes 19 = .ok (.iconst 0, 1) := by decide +kernel
theorem dX4_becomes_20 : decode cX4_becomes 20 = .ok (.aload_n 0, 1) := by decide +kernel
theorem dX4_becomes_21 : decode cX4_becomes 21 = .ok (.getfield 15, 3) := by decide +kernel
theorem dX4_becomes_24 : decode cX4_becomes 24 = .ok (.iconst 0, 1) := by decide +kernel
theorem dX4_becomes_25 : decode cX4_becomes 25 = .ok (.bipush 7, 2) := by decide +kernel
theorem dX4_becomes_27 : decode cX4_becomes 27 = .ok (.invokestatic 28, 3) := by decide +kernel
theorem dX4_becomes_30 : decode cX4_becomes 30 = .ok (.aload_n 1, 1) := by decide +kernel
theorem dX4_becomes_31 : decode cX4_becomes 31 = .ok (.getfield 18, 3) := by decide +kernel
theorem dX4_becomes_34 : decode cX4_becomes 34 = .ok (.iconst 0, 1) := by decide +kernel
theorem dX4_becomes_35 : decode cX4_becomes 35 = .ok (.aload_n 0, 1) := by decide +kernel
theorem dX4_becomes_36 : decode cX4_becomes 36 = .ok (.getfield 18, 3) := by decide +kernel
theorem dX4_becomes_39 : decode cX4_becomes 39 = .ok (.iconst 0, 1) := by decide +kernel
theorem dX4_becomes_40 : decode cX4_becomes 40 = .ok (.bipush 7, 2) := by decide +kernel
theorem dX4_becomes_42 : decode cX4_becomes 42 = .ok (.invokestatic 28, 3) := by decide +kernel
theorem dX4_becomes_45 : decode cX4_becomes 45 = .ok (.aload_n 1, 1) := by decide +kernel
theorem dX4_becomes_46 : decode cX4_becomes 46 = .ok (.getfield 21, 3) := by decide +kernel
theorem dX4_becomes_49 : decode cX4_becomes 49 = .ok (.iconst 0, 1) := by decide +kernel
theorem dX4_becomes_50 : decode cX4_becomes 50 = .ok (.aload_n 0, 1) := by decide +kernel
theorem dX4_becomes_51 : decode cX4_becomes 51 = .ok (.getfield 21, 3) := by decide +kernel
theorem dX4_becomes_54 : decode cX4_becomes 54 = .ok (.iconst 0, 1) := by decide +kernel
theorem dX4_becomes_55 : decode cX4_becomes 55 = .ok (.bipush 49, 2) := by decide +kernel
theorem dX4_becomes_57 : decode cX4_becomes 57 = .ok (.invokestatic 28, 3) := by decide +kernel
theorem dX4_becomes_60 : decode cX4_becomes 60 = .ok (.aload_n 0, 1) := by decide +kernel
theorem dX4_becomes_61 : decode cX4_becomes 61 = .ok (.aload_n 1, 1) := by decide +kernel
theorem dX4_becomes_62 : decode cX4_becomes 62 = .ok (.getfield 34, 3) := by decide +kernel
theorem dX4_becomes_65 : decode cX4_becomes 65 = .ok (.putfield 34, 3) := by decide +kernel
theorem dX4_becomes_68 : decode cX4_becomes 68 = .ok (.aload_n 0, 1) := by decide +kernel
theorem dX4_becomes_69 : decode cX4_becomes 69 = .ok (.aload_n 1, 1) := by decide +kernel
theorem dX4_becomes_70 : decode cX4_becomes 70 = .ok (.getfield 24, 3) := by decide +kernel
theorem dX4_becomes_73 : decode cX4_becomes 73 = .ok (.putfield 24, 3) := by decide +kernel
theorem dX4_becomes_76 : decode cX4_becomes 76 = .ok (.aload_n 0, 1) := by decide +kernel
theorem dX4_becomes_77 : decode cX4_becomes 77 = .ok (.aload_n 1, 1) := by decide +kernel
theorem dX4_becomes_78 : decode cX4_becomes 78 = .ok (.getfield 37, 3) := by decide +kernel
theorem dX4_becomes_81 : decode cX4_becomes 81 = .ok (.putfield 37, 3) := by decide +kernel
theorem dX4_becomes_84 : decode cX4_becomes 84 = .ok (.aload_n 0, 1) := by decide +kernel
theorem dX4_becomes_85 : decode cX4_becomes 85 = .ok (.aload_n 1, 1) := by decide +kernel
theorem dX4_becomes_86 : decode cX4_becomes 86 = .ok (.getfield 40, 3) := by decide +kernel
theorem dX4_becomes_89 : decode cX4_becomes 89 = .ok (.putfield 40, 3) := by decide +kernel
theorem dX4_becomes_92 : decode cX4_becomes 92 = .ok (.aload_n 0, 1) := by decide +kernel
theorem dX4_becomes_93 : decode cX4_becomes 93 = .ok (.aload_n 1, 1) := by decide +kernel
theorem dX4_becomes_94 : decode cX4_becomes 94 = .ok (.getfield 43, 3) := by decide +kernel
theorem dX4_becomes_97 : decode cX4_becomes 97 = .ok (.putfield 43, 3) := by decide +kernel
theorem dX4_becomes_100 : decode cX4_becomes 100 = .ok (.aload_n 0, 1) := by decide +kernel
theorem dX4_becomes_101 : decode cX4_becomes 101 = .ok (.aload_n 1, 1) := by decide +kernel
theorem dX4_becomes_102 : decode cX4_becomes 102 = .ok (.getfield 46, 3) := by decide +kernel
theorem dX4_becomes_105 : decode cX4_becomes 105 = .ok (.putfield 46, 3) := by decide +kernel
theorem dX4_becomes_108 : decode cX4_becomes 108 = .ok (.return_, 1) := by decide +kernel
theorem dX4_settlesIn_0 : decode cX4_settlesIn 0 = .ok (.aload_n 0, 1) := by decide +kernel
theorem dX4_settlesIn_1 : decode cX4_settlesIn 1 = .ok (.getfield 34, 3) := by decide +kernel
theorem dX4_settlesIn_4 : decode cX4_settlesIn 4 = .ok (.bipush 7, 2) := by decide +kernel
theorem dX4_settlesIn_6 : decode cX4_settlesIn 6 = .ok (.if_icmp .lt 4, 3) := by decide +kernel
theorem dX4_settlesIn_9 : decode cX4_settlesIn 9 = .ok (.return_, 1) := by decide +kernel
theorem dX4_settlesIn_10 : decode cX4_settlesIn 10 = .ok (.aload_n 0, 1) := by decide +kernel
theorem dX4_settlesIn_11 : decode cX4_settlesIn 11 = .ok (.getfield 9, 3) := by decide +kernel
theorem dX4_settlesIn_14 : decode cX4_settlesIn 14 = .ok (.aload_n 0, 1) := by decide +kernel
theorem dX4_settlesIn_15 : decode cX4_settlesIn 15 = .ok (.getfield 34, 3) := by decide +kernel
theorem dX4_settlesIn_18 : decode cX4_settlesIn 18 = .ok (.iload_n 1, 1) := by decide +kernel
theorem dX4_settlesIn_19 : decode cX4_settlesIn 19 = .ok (.iastore, 1) := by decide +kernel
theorem dX4_settlesIn_20 : decode cX4_settlesIn 20 = .ok (.aload_n 0, 1) := by decide +kernel
theorem dX4_settlesIn_21 : decode cX4_settlesIn 21 = .ok (.getfield 15, 3) := by decide +kernel
theorem dX4_settlesIn_24 : decode cX4_settlesIn 24 = .ok (.aload_n 0, 1) := by decide +kernel
theorem dX4_settlesIn_25 : decode cX4_settlesIn 25 = .ok (.getfield 34, 3) := by decide +kernel
theorem dX4_settlesIn_28 : decode cX4_settlesIn 28 = .ok (.iload_n 2, 1) := by decide +kernel
theorem dX4_settlesIn_29 : decode cX4_settlesIn 29 = .ok (.iastore, 1) := by decide +kernel
theorem dX4_settlesIn_30 : decode cX4_settlesIn 30 = .ok (.aload_n 0, 1) := by decide +kernel
theorem dX4_settlesIn_31 : decode cX4_settlesIn 31 = .ok (.getfield 18, 3) := by decide +kernel
theorem dX4_settlesIn_34 : decode cX4_settlesIn 34 = .ok (.aload_n 0, 1) := by decide +kernel
theorem dX4_settlesIn_35 : decode cX4_settlesIn 35 = .ok (.getfield 34, 3) := by decide +kernel
theorem dX4_settlesIn_38 : decode cX4_settlesIn 38 = .ok (.iconst (-1), 1) := by decide +kernel
theorem dX4_settlesIn_39 : decode cX4_settlesIn 39 = .ok (.iastore, 1) := by decide +kernel
theorem dX4_settlesIn_40 : decode cX4_settlesIn 40 = .ok (.iload_n 3, 1) := by decide +kernel
theorem dX4_settlesIn_41 : decode cX4_settlesIn 41 = .ok (.ifCond .eq 18, 3) := by decide +kernel
theorem dX4_settlesIn_44 : decode cX4_settlesIn 44 = .ok (.aload_n 0, 1) := by decide +kernel
theorem dX4_settlesIn_45 : decode cX4_settlesIn 45 = .ok (.dup, 1) := by decide +kernel
theorem dX4_settlesIn_46 : decode cX4_settlesIn 46 = .ok (.getfield 43, 3) := by decide +kernel
theorem dX4_settlesIn_49 : decode cX4_settlesIn 49 = .ok (.iconst 1, 1) := by decide +kernel
theorem dX4_settlesIn_50 : decode cX4_settlesIn 50 = .ok (.aload_n 0, 1) := by decide +kernel
theorem dX4_settlesIn_51 : decode cX4_settlesIn 51 = .ok (.getfield 34, 3) := by decide +kernel
theorem dX4_settlesIn_54 : decode cX4_settlesIn 54 = .ok (.ishl, 1) := by decide +kernel
theorem dX4_settlesIn_55 : decode cX4_settlesIn 55 = .ok (.ior, 1) := by decide +kernel
theorem dX4_settlesIn_56 : decode cX4_settlesIn 56 = .ok (.putfield 43, 3) := by decide +kernel
theorem dX4_settlesIn_59 : decode cX4_settlesIn 59 = .ok (.aload_n 0, 1) := by decide +kernel
theorem dX4_settlesIn_60 : decode cX4_settlesIn 60 = .ok (.dup, 1) := by decide +kernel
theorem dX4_settlesIn_61 : decode cX4_settlesIn 61 = .ok (.getfield 34, 3) := by decide +kernel
theorem dX4_settlesIn_64 : decode cX4_settlesIn 64 = .ok (.iconst 1, 1) := by decide +kernel
theorem dX4_settlesIn_65 : decode cX4_settlesIn 65 = .ok (.iadd, 1) := by decide +kernel
theorem dX4_settlesIn_66 : decode cX4_settlesIn 66 = .ok (.putfield 34, 3) := by decide +kernel
theorem dX4_settlesIn_69 : decode cX4_settlesIn 69 = .ok (.return_, 1) := by decide +kernel
theorem dX4_passQuarter_0 : decode cX4_passQuarter 0 = .ok (.aload_n 0, 1) := by decide +kernel
theorem dX4_passQuarter_1 : decode cX4_passQuarter 1 = .ok (.dup, 1) := by decide +kernel
theorem dX4_passQuarter_2 : decode cX4_passQuarter 2 = .ok (.getfield 40, 3) := by decide +kernel
theorem dX4_passQuarter_5 : decode cX4_passQuarter 5 = .ok (.iconst 1, 1) := by decide +kernel
theorem dX4_passQuarter_6 : decode cX4_passQuarter 6 = .ok (.iadd, 1) := by decide +kernel
theorem dX4_passQuarter_7 : decode cX4_passQuarter 7 = .ok (.putfield 40, 3) := by decide +kernel
theorem dX4_passQuarter_10 : decode cX4_passQuarter 10 = .ok (.aload_n 0, 1) := by decide +kernel
theorem dX4_passQuarter_11 : decode cX4_passQuarter 11 = .ok (.iload_n 1, 1) := by decide +kernel
theorem dX4_passQuarter_12 : decode cX4_passQuarter 12 = .ok (.invokevirtual 84, 3) := by decide +kernel
theorem dX4_passQuarter_15 : decode cX4_passQuarter 15 = .ok (.aload_n 0, 1) := by decide +kernel
theorem dX4_passQuarter_16 : decode cX4_passQuarter 16 = .ok (.invokevirtual 88, 3) := by decide +kernel
theorem dX4_passQuarter_19 : decode cX4_passQuarter 19 = .ok (.aload_n 0, 1) := by decide +kernel
theorem dX4_passQuarter_20 : decode cX4_passQuarter 20 = .ok (.getfield 40, 3) := by decide +kernel
theorem dX4_passQuarter_23 : decode cX4_passQuarter 23 = .ok (.bipush 9, 2) := by decide +kernel
theorem dX4_passQuarter_25 : decode cX4_passQuarter 25 = .ok (.irem, 1) := by decide +kernel
theorem dX4_passQuarter_26 : decode cX4_passQuarter 26 = .ok (.ifCond .ne 10, 3) := by decide +kernel
theorem dX4_passQuarter_29 : decode cX4_passQuarter 29 = .ok (.aload_n 0, 1) := by decide +kernel
theorem dX4_passQuarter_30 : decode cX4_passQuarter 30 = .ok (.invokevirtual 91, 3) := by decide +kernel
theorem dX4_passQuarter_33 : decode cX4_passQuarter 33 = .ok (.goto 7, 3) := by decide +kernel
theorem dX4_passQuarter_36 : decode cX4_passQuarter 36 = .ok (.aload_n 0, 1) := by decide +kernel
theorem dX4_passQuarter_37 : decode cX4_passQuarter 37 = .ok (.invokevirtual 94, 3) := by decide +kernel
theorem dX4_passQuarter_40 : decode cX4_passQuarter 40 = .ok (.iconst 0, 1) := by decide +kernel
theorem dX4_passQuarter_41 : decode cX4_passQuarter 41 = .ok (.istore_n 2, 1) := by decide +kernel
theorem dX4_passQuarter_42 : decode cX4_passQuarter 42 = .ok (.iload_n 2, 1) := by decide +kernel
theorem dX4_passQuarter_43 : decode cX4_passQuarter 43 = .ok (.aload_n 0, 1) := by decide +kernel
theorem dX4_passQuarter_44 : decode cX4_passQuarter 44 = .ok (.getfield 34, 3) := by decide +kernel
theorem dX4_passQuarter_47 : decode cX4_passQuarter 47 = .ok (.if_icmp .ge 16, 3) := by decide +kernel
theorem dX4_passQuarter_50 : decode cX4_passQuarter 50 = .ok (.aload_n 0, 1) := by decide +kernel
theorem dX4_passQuarter_51 : decode cX4_passQuarter 51 = .ok (.getfield 18, 3) := by decide +kernel
theorem dX4_passQuarter_54 : decode cX4_passQuarter 54 = .ok (.iload_n 2, 1) := by decide +kernel
theorem dX4_passQuarter_55 : decode cX4_passQuarter 55 = .ok (.iconst (-1), 1) := by decide +kernel
theorem dX4_passQuarter_56 : decode cX4_passQuarter 56 = .ok (.iastore, 1) := by decide +kernel
theorem dX4_passQuarter_57 : decode cX4_passQuarter 57 = .ok (.iinc 2 1, 3) := by decide +kernel
theorem dX4_passQuarter_60 : decode cX4_passQuarter 60 = .ok (.goto (-18), 3) := by decide +kernel
theorem dX4_passQuarter_63 : decode cX4_passQuarter 63 = .ok (.return_, 1) := by decide +kernel
section T4
variable (G : GG) (z : Nat) (σ : AH) (t : Nat) (ca inc pa de : Nat → Int32) (pe un ra qu hi fa : Int32)
theorem c_seenFrom {N u : Nat} (x : Int32) (hN : N ≤ 7) (hu : 1 ≤ u) (hu2 : u ≤ 20) : Ct G yX4_seenFrom cX4_seenFrom 4 (some .int) 5 0 0 z (tw σ t ca inc pa de (nI N) (nI u) ra qu hi fa) [.ref t, .int x] (some (.int (seenI pa de hi x N u N))) z (tw σ t ca inc pa de (nI N) (nI u) ra qu hi fa) := by
  refine Ct.ofJ RX4 rfl [some (.ref t), some (.int x), none, none] rfl (by decide) (by simp [Value.category]) ?_
  refine j_iconst (nI 0) dX4_seenFrom_0 rfl ?_
  refine j_istore_n dX4_seenFrom_1 rfl (Nat.le_of_ble_eq_true rfl) rfl ?_
  refine j_iconst (nI 0) dX4_seenFrom_2 rfl ?_
  refine j_istore_n dX4_seenFrom_3 rfl (Nat.le_of_ble_eq_true rfl) rfl ?_
  skip
  suffices H : ∀ (ki i : Nat), i ≤ N → N < i + ki → J G RX4 cX4_seenFrom 4 (some .int) (TQ G 5 0 0 (some (.int (seenI pa de hi x N u N))) z (tw σ t ca inc pa de (nI N) (nI u) ra qu hi fa)) z (tw σ t ca inc pa de (nI N) (nI u) ra qu hi fa) 0 0 4 [some (.ref t), some (.int x), some (.int (seenI pa de hi x N u i)), some (.int (nI i))] [] from H (N + 1) 0 (by omega) (by omega)
  intro ki
  induction ki with
  | zero => intro i h1i h2i; exact absurd h2i (by omega)
  | succ ki ih =>
    intro i h1i h2i
    have e1 : seenI pa de hi x N u (i + 1) = if bitI hi (nI i) = 0 ∧ x ≤ lks pa de N u i then orI (seenI pa de hi x N u i) i else seenI pa de hi x N u i := rfl
    refine j_iload_n dX4_seenFrom_4 rfl rfl ?_
    refine j_aload_n dX4_seenFrom_5 rfl rfl ?_
    refine j_getf dX4_seenFrom_6 4 4 rfl (Nat.le_of_ble_eq_true rfl) fl_X4_34 in_4 (by first | exact tw_o | exact tw_c | exact tw_i | exact tw_p | exact tw_d) rfl ?_
    refine j_icmp_geN 44 dX4_seenFrom_9 (by decide) (by omega) (by omega) (fun b9 => ?_) (fun b9 => ?_)
    · obtain rfl : i = N := by omega
      refine j_iload_n dX4_seenFrom_44 rfl rfl ?_
      exact j_iret rfl dX4_seenFrom_45 rfl rfl (Nat.le_of_ble_eq_true rfl) (Nat.le_of_ble_eq_true rfl)
    · refine j_aload_n dX4_seenFrom_12 rfl rfl ?_
      refine j_getf dX4_seenFrom_13 4 8 rfl (Nat.le_of_ble_eq_true rfl) fl_X4_43 in_4 (by first | exact tw_o | exact tw_c | exact tw_i | exact tw_p | exact tw_d) rfl ?_
      refine j_iload_n dX4_seenFrom_16 rfl rfl ?_
      refine j_bitOf rfl (c_bitOf G z _ hi (nI i)) dX4_seenFrom_17 rfl mn_bitOf ⟨(Nat.le_of_ble_eq_true rfl), (Nat.le_of_ble_eq_true rfl)⟩ ⟨(Nat.le_of_ble_eq_true rfl), (Nat.le_of_ble_eq_true rfl)⟩ (Nat.le_of_ble_eq_true rfl) ?_
      refine j_if_ne 38 dX4_seenFrom_20 (by decide) (fun b20 => ?_) (fun b20 => ?_)
      · first | refine j_iincN dX4_seenFrom_38 rfl (Nat.le_of_ble_eq_true rfl) rfl ?_ | refine j_iinc _ dX4_seenFrom_38 rfl rfl (Nat.le_of_ble_eq_true rfl) rfl ?_
        refine j_goto 4 dX4_seenFrom_41 (by decide) ?_
        have ih2 := ih (i + 1) (by omega) (by omega)
        first | (rw [e1, if_neg (fun q => b20 q.1)] at ih2; exact ih2) | (rw [e1, if_neg (fun q => absurd q.2 (Int32.not_le.mpr b29))] at ih2; exact ih2) | (rw [e1, if_pos ⟨b20, Int32.not_lt.mp b29⟩] at ih2; exact ih2)
      · refine j_aload_n dX4_seenFrom_23 rfl rfl ?_
        refine j_iload_n dX4_seenFrom_24 rfl rfl ?_
        refine j_callV (c_looksOf G z σ t ca inc pa de ra qu hi fa hN (by omega) hu hu2) dX4_seenFrom_25 rfl mv_X4_81 (by first | exact tw_o | exact tw_c | exact tw_i | exact tw_p | exact tw_d) rfl ⟨(Nat.le_of_ble_eq_true rfl), (Nat.le_of_ble_eq_true rfl)⟩ ⟨(Nat.le_of_ble_eq_true rfl), (Nat.le_of_ble_eq_true rfl)⟩ (Nat.le_of_ble_eq_true rfl) ?_
        refine j_iload_n dX4_seenFrom_28 rfl rfl ?_
        refine j_icmp_lt 38 dX4_seenFrom_29 (by decide) (fun b29 => ?_) (fun b29 => ?_)
        · first | refine j_iincN dX4_seenFrom_38 rfl (Nat.le_of_ble_eq_true rfl) rfl ?_ | refine j_iinc _ dX4_seenFrom_38 rfl rfl (Nat.le_of_ble_eq_true rfl) rfl ?_
          refine j_goto 4 dX4_seenFrom_41 (by decide) ?_
          have ih2 := ih (i + 1) (by omega) (by omega)
          first | (rw [e1, if_neg (fun q => b20 q.1)] at ih2; exact ih2) | (rw [e1, if_neg (fun q => absurd q.2 (Int32.not_le.mpr b29))] at ih2; exact ih2) | (rw [e1, if_pos ⟨b20, Int32.not_lt.mp b29⟩] at ih2; exact ih2)
        · refine j_iload_n dX4_seenFrom_32 rfl rfl ?_
          refine j_iconst (nI 1) dX4_seenFrom_33 rfl ?_
          refine j_iload_n dX4_seenFrom_34 rfl rfl ?_
          refine j_ishl dX4_seenFrom_35 ?_
          refine j_ior dX4_seenFrom_36 ?_
          refine j_istore_n dX4_seenFrom_37 rfl (Nat.le_of_ble_eq_true rfl) rfl ?_
          first | refine j_iincN dX4_seenFrom_38 rfl (Nat.le_of_ble_eq_true rfl) rfl ?_ | refine j_iinc _ dX4_seenFrom_38 rfl rfl (Nat.le_of_ble_eq_true rfl) rfl ?_
          refine j_goto 4 dX4_seenFrom_41 (by decide) ?_
          have ih2 := ih (i + 1) (by omega) (by omega)
          first | (rw [e1, if_neg (fun q => b20 q.1)] at ih2; exact ih2) | (rw [e1, if_neg (fun q => absurd q.2 (Int32.not_le.mpr b29))] at ih2; exact ih2) | (rw [e1, if_pos ⟨b20, Int32.not_lt.mp b29⟩] at ih2; exact ih2)
theorem c_debtsAboveNone {N : Nat} (hN : N ≤ 7) : Ct G yX4_debtsAboveNone cX4_debtsAboveNone 4 (some .int) 2 0 0 z (tw σ t ca inc pa de (nI N) un ra qu hi fa) [.ref t] (some (.int (nI (cntDs de N N)))) z (tw σ t ca inc pa de (nI N) un ra qu hi fa) := by
  refine Ct.ofJ RX4 rfl [some (.ref t), none, none, none] rfl (by decide) (by simp [Value.category]) ?_
  refine j_iconst (nI 0) dX4_debtsAboveNone_0 rfl ?_
  refine j_istore_n dX4_debtsAboveNone_1 rfl (Nat.le_of_ble_eq_true rfl) rfl ?_
  refine j_iconst (nI 0) dX4_debtsAboveNone_2 rfl ?_
  refine j_istore_n dX4_debtsAboveNone_3 rfl (Nat.le_of_ble_eq_true rfl) rfl ?_
  suffices H : ∀ (k a : Nat) (o : Option Value), a ≤ N → N < a + k → J G RX4 cX4_debtsAboveNone 4 (some .int) (TQ G 2 0 0 (some (.int (nI (cntDs de N N)))) z (tw σ t ca inc pa de (nI N) un ra qu hi fa)) z (tw σ t ca inc pa de (nI N) un ra qu hi fa) 0 0 4 [some (.ref t), some (.int (nI (cntDs de N a))), some (.int (nI a)), o] [] from H (N + 1) 0 none (by omega) (by omega)
  intro k
  induction k with
  | zero => intro a o h1 h2; exact absurd h2 (by omega)
  | succ k ih =>
    intro a o h1 h2
    refine j_iload_n dX4_debtsAboveNone_4 rfl rfl ?_
    refine j_aload_n dX4_debtsAboveNone_5 rfl rfl ?_
    refine j_getf dX4_debtsAboveNone_6 4 4 rfl (Nat.le_of_ble_eq_true rfl) fl_X4_34 in_4 (by first | exact tw_o | exact tw_c | exact tw_i | exact tw_p | exact tw_d) rfl ?_
    refine j_icmp_geN 46 dX4_debtsAboveNone_9 (by decide) (by omega) (by omega) (fun b9 => ?_) (fun b9 => ?_)
    · obtain rfl : a = N := by omega
      refine j_iload_n dX4_debtsAboveNone_46 rfl rfl ?_
      exact j_iret rfl dX4_debtsAboveNone_47 rfl rfl (Nat.le_of_ble_eq_true rfl) (Nat.le_of_ble_eq_true rfl)
    · refine j_iconst (nI 0) dX4_debtsAboveNone_12 rfl ?_
      refine j_istore_n dX4_debtsAboveNone_13 rfl (Nat.le_of_ble_eq_true rfl) rfl ?_
      skip
      suffices H2 : ∀ (kb b : Nat), b ≤ N → N < b + kb → J G RX4 cX4_debtsAboveNone 4 (some .int) (TQ G 2 0 0 (some (.int (nI (cntDs de N N)))) z (tw σ t ca inc pa de (nI N) un ra qu hi fa)) z (tw σ t ca inc pa de (nI N) un ra qu hi fa) 0 0 14 [some (.ref t), some (.int (nI (cntD de N a (cntDs de N a) b))), some (.int (nI a)), some (.int (nI b))] [] from H2 (N + 1) 0 (by omega) (by omega)
      intro kb
      induction kb with
      | zero => intro b h1b h2b; exact absurd h2b (by omega)
      | succ kb ih2 =>
        intro b h1b h2b
        have e1 : cntD de N a (cntDs de N a) (b + 1) = if 0 < de (a * 7 + b) then cntD de N a (cntDs de N a) b + 1 else cntD de N a (cntDs de N a) b := rfl
        refine j_iload_n dX4_debtsAboveNone_14 rfl rfl ?_
        refine j_aload_n dX4_debtsAboveNone_15 rfl rfl ?_
        refine j_getf dX4_debtsAboveNone_16 4 4 rfl (Nat.le_of_ble_eq_true rfl) fl_X4_34 in_4 (by first | exact tw_o | exact tw_c | exact tw_i | exact tw_p | exact tw_d) rfl ?_
        refine j_icmp_geN 40 dX4_debtsAboveNone_19 (by decide) (by omega) (by omega) (fun b19 => ?_) (fun b19 => ?_)
        · obtain rfl : b = N := by omega
          first | refine j_iincN dX4_debtsAboveNone_40 rfl (Nat.le_of_ble_eq_true rfl) rfl ?_ | refine j_iinc _ dX4_debtsAboveNone_40 rfl rfl (Nat.le_of_ble_eq_true rfl) rfl ?_
          refine j_goto 4 dX4_debtsAboveNone_43 (by decide) ?_
          exact ih (a + 1) _ (by omega) (by omega)
        · refine j_aload_n dX4_debtsAboveNone_22 rfl rfl ?_
          refine j_iload_n dX4_debtsAboveNone_23 rfl rfl ?_
          refine j_iload_n dX4_debtsAboveNone_24 rfl rfl ?_
          refine j_callV (c_debtOf G z σ t ca inc pa de (nI N) un ra qu hi fa (by omega)) dX4_debtsAboveNone_25 rfl mv_X4_49 (by first | exact tw_o | exact tw_c | exact tw_i | exact tw_p | exact tw_d) rfl ⟨(Nat.le_of_ble_eq_true rfl), (Nat.le_of_ble_eq_true rfl)⟩ ⟨(Nat.le_of_ble_eq_true rfl), (Nat.le_of_ble_eq_true rfl)⟩ (Nat.le_of_ble_eq_true rfl) ?_
          refine j_if_le 34 dX4_debtsAboveNone_28 (by decide) (fun b28 => ?_) (fun b28 => ?_)
          · first | refine j_iincN dX4_debtsAboveNone_34 rfl (Nat.le_of_ble_eq_true rfl) rfl ?_ | refine j_iinc _ dX4_debtsAboveNone_34 rfl rfl (Nat.le_of_ble_eq_true rfl) rfl ?_
            refine j_goto 14 dX4_debtsAboveNone_37 (by decide) ?_
            have ih3 := ih2 (b + 1) (by omega) (by omega)
            first | (rw [e1, if_neg (Int32.not_lt.mpr b28)] at ih3; exact ih3) | (rw [e1, if_pos (Int32.not_le.mp b28)] at ih3; exact ih3)
          · first | refine j_iincN dX4_debtsAboveNone_31 rfl (Nat.le_of_ble_eq_true rfl) rfl ?_ | refine j_iinc _ dX4_debtsAboveNone_31 rfl rfl (Nat.le_of_ble_eq_true rfl) rfl ?_
            first | refine j_iincN dX4_debtsAboveNone_34 rfl (Nat.le_of_ble_eq_true rfl) rfl ?_ | refine j_iinc _ dX4_debtsAboveNone_34 rfl rfl (Nat.le_of_ble_eq_true rfl) rfl ?_
            refine j_goto 14 dX4_debtsAboveNone_37 (by decide) ?_
            have ih3 := ih2 (b + 1) (by omega) (by omega)
            first | (rw [e1, if_neg (Int32.not_lt.mpr b28)] at ih3; exact ih3) | (rw [e1, if_pos (Int32.not_le.mp b28)] at ih3; exact ih3)
theorem c_lendersOf {N : Nat} (so : Int32) (hN : N ≤ 7) : Ct G yX4_lendersOf cX4_lendersOf 5 (some .int) 2 0 0 z (tw σ t ca inc pa de (nI N) un ra qu hi fa) [.ref t, .int so] (some (.int (lendA de so N N))) z (tw σ t ca inc pa de (nI N) un ra qu hi fa) := by
  refine Ct.ofJ RX4 rfl [some (.ref t), some (.int so), none, none, none] rfl (by decide) (by simp [Value.category]) ?_
  refine j_iconst (nI 0) dX4_lendersOf_0 rfl ?_
  refine j_istore_n dX4_lendersOf_1 rfl (Nat.le_of_ble_eq_true rfl) rfl ?_
  refine j_iconst (nI 0) dX4_lendersOf_2 rfl ?_
  refine j_istore_n dX4_lendersOf_3 rfl (Nat.le_of_ble_eq_true rfl) rfl ?_
  suffices H : ∀ (k a : Nat) (o : Option Value), a ≤ N → N < a + k → J G RX4 cX4_lendersOf 5 (some .int) (TQ G 2 0 0 (some (.int (lendA de so N N))) z (tw σ t ca inc pa de (nI N) un ra qu hi fa)) z (tw σ t ca inc pa de (nI N) un ra qu hi fa) 0 0 4 [some (.ref t), some (.int so), some (.int (lendA de so N a)), some (.int (nI a)), o] [] from H (N + 1) 0 none (by omega) (by omega)
  intro k
  induction k with
  | zero => intro a o h1 h2; exact absurd h2 (by omega)
  | succ k ih =>
    intro a o h1 h2
    refine j_iload_n dX4_lendersOf_4 rfl rfl ?_
    refine j_aload_n dX4_lendersOf_5 rfl rfl ?_
    refine j_getf dX4_lendersOf_6 4 4 rfl (Nat.le_of_ble_eq_true rfl) fl_X4_34 in_4 (by first | exact tw_o | exact tw_c | exact tw_i | exact tw_p | exact tw_d) rfl ?_
    refine j_icmp_geN 62 dX4_lendersOf_9 (by decide) (by omega) (by omega) (fun b9 => ?_) (fun b9 => ?_)
    · obtain rfl : a = N := by omega
      refine j_iload_n dX4_lendersOf_62 rfl rfl ?_
      exact j_iret rfl dX4_lendersOf_63 rfl rfl (Nat.le_of_ble_eq_true rfl) (Nat.le_of_ble_eq_true rfl)
    · refine j_iconst (nI 0) dX4_lendersOf_12 rfl ?_
      refine j_istore dX4_lendersOf_13 (Nat.le_of_ble_eq_true rfl) rfl ?_
      skip
      suffices H2 : ∀ (kb b : Nat), b ≤ N → N < b + kb → J G RX4 cX4_lendersOf 5 (some .int) (TQ G 2 0 0 (some (.int (lendA de so N N))) z (tw σ t ca inc pa de (nI N) un ra qu hi fa)) z (tw σ t ca inc pa de (nI N) un ra qu hi fa) 0 0 15 [some (.ref t), some (.int so), some (.int (lendB de so a b (lendA de so N a))), some (.int (nI a)), some (.int (nI b))] [] from H2 (N + 1) 0 (by omega) (by omega)
      intro kb
      induction kb with
      | zero => intro b h1b h2b; exact absurd h2b (by omega)
      | succ kb ih2 =>
        intro b h1b h2b
        have e1 : lendB de so a (b + 1) (lendA de so N a) = if bitI so (nI a) = nI 1 ∧ 0 < de (a * 7 + b) then orI (lendB de so a b (lendA de so N a)) b else lendB de so a b (lendA de so N a) := rfl
        refine j_iload dX4_lendersOf_15 rfl ?_
        refine j_aload_n dX4_lendersOf_17 rfl rfl ?_
        refine j_getf dX4_lendersOf_18 4 4 rfl (Nat.le_of_ble_eq_true rfl) fl_X4_34 in_4 (by first | exact tw_o | exact tw_c | exact tw_i | exact tw_p | exact tw_d) rfl ?_
        refine j_icmp_geN 56 dX4_lendersOf_21 (by decide) (by omega) (by omega) (fun b21 => ?_) (fun b21 => ?_)
        · obtain rfl : b = N := by omega
          first | refine j_iincN dX4_lendersOf_56 rfl (Nat.le_of_ble_eq_true rfl) rfl ?_ | refine j_iinc _ dX4_lendersOf_56 rfl rfl (Nat.le_of_ble_eq_true rfl) rfl ?_
          refine j_goto 4 dX4_lendersOf_59 (by decide) ?_
          exact ih (a + 1) _ (by omega) (by omega)
        · refine j_iload_n dX4_lendersOf_24 rfl rfl ?_
          refine j_iload_n dX4_lendersOf_25 rfl rfl ?_
          refine j_bitOf rfl (c_bitOf G z _ so (nI a)) dX4_lendersOf_26 rfl mn_bitOf ⟨(Nat.le_of_ble_eq_true rfl), (Nat.le_of_ble_eq_true rfl)⟩ ⟨(Nat.le_of_ble_eq_true rfl), (Nat.le_of_ble_eq_true rfl)⟩ (Nat.le_of_ble_eq_true rfl) ?_
          refine j_iconst (nI 1) dX4_lendersOf_29 rfl ?_
          refine j_icmp_ne 50 dX4_lendersOf_30 (by decide) (fun b30 => ?_) (fun b30 => ?_)
          · first | refine j_iincN dX4_lendersOf_50 rfl (Nat.le_of_ble_eq_true rfl) rfl ?_ | refine j_iinc _ dX4_lendersOf_50 rfl rfl (Nat.le_of_ble_eq_true rfl) rfl ?_
            refine j_goto 15 dX4_lendersOf_53 (by decide) ?_
            have ih3 := ih2 (b + 1) (by omega) (by omega)
            first | (rw [e1, if_neg (fun q => b30 q.1)] at ih3; exact ih3) | (rw [e1, if_neg (fun q => absurd q.2 (Int32.not_lt.mpr b40))] at ih3; exact ih3) | (rw [e1, if_pos ⟨b30, Int32.not_le.mp b40⟩] at ih3; exact ih3)
          · refine j_aload_n dX4_lendersOf_33 rfl rfl ?_
            refine j_iload_n dX4_lendersOf_34 rfl rfl ?_
            refine j_iload dX4_lendersOf_35 rfl ?_
            refine j_callV (c_debtOf G z σ t ca inc pa de (nI N) un ra qu hi fa (by omega)) dX4_lendersOf_37 rfl mv_X4_49 (by first | exact tw_o | exact tw_c | exact tw_i | exact tw_p | exact tw_d) rfl ⟨(Nat.le_of_ble_eq_true rfl), (Nat.le_of_ble_eq_true rfl)⟩ ⟨(Nat.le_of_ble_eq_true rfl), (Nat.le_of_ble_eq_true rfl)⟩ (Nat.le_of_ble_eq_true rfl) ?_
            refine j_if_le 50 dX4_lendersOf_40 (by decide) (fun b40 => ?_) (fun b40 => ?_)
            · first | refine j_iincN dX4_lendersOf_50 rfl (Nat.le_of_ble_eq_true rfl) rfl ?_ | refine j_iinc _ dX4_lendersOf_50 rfl rfl (Nat.le_of_ble_eq_true rfl) rfl ?_
              refine j_goto 15 dX4_lendersOf_53 (by decide) ?_
              have ih3 := ih2 (b + 1) (by omega) (by omega)
              first | (rw [e1, if_neg (fun q => b30 q.1)] at ih3; exact ih3) | (rw [e1, if_neg (fun q => absurd q.2 (Int32.not_lt.mpr b40))] at ih3; exact ih3) | (rw [e1, if_pos ⟨b30, Int32.not_le.mp b40⟩] at ih3; exact ih3)
            · refine j_iload_n dX4_lendersOf_43 rfl rfl ?_
              refine j_iconst (nI 1) dX4_lendersOf_44 rfl ?_
              refine j_iload dX4_lendersOf_45 rfl ?_
              refine j_ishl dX4_lendersOf_47 ?_
              refine j_ior dX4_lendersOf_48 ?_
              refine j_istore_n dX4_lendersOf_49 rfl (Nat.le_of_ble_eq_true rfl) rfl ?_
              first | refine j_iincN dX4_lendersOf_50 rfl (Nat.le_of_ble_eq_true rfl) rfl ?_ | refine j_iinc _ dX4_lendersOf_50 rfl rfl (Nat.le_of_ble_eq_true rfl) rfl ?_
              refine j_goto 15 dX4_lendersOf_53 (by decide) ?_
              have ih3 := ih2 (b + 1) (by omega) (by omega)
              first | (rw [e1, if_neg (fun q => b30 q.1)] at ih3; exact ih3) | (rw [e1, if_neg (fun q => absurd q.2 (Int32.not_lt.mpr b40))] at ih3; exact ih3) | (rw [e1, if_pos ⟨b30, Int32.not_le.mp b40⟩] at ih3; exact ih3)
theorem c_drawn (x : Int64) (v : Int32) (hv : 0 ≤ v) (hne : ¬ (v + nI 1).toInt64 = 0) : Ct G yX4_drawn cX4_drawn 3 (some .int) 1 0 0 z σ [.long x, .int v] (some (.int (drawnI x v))) z σ := by
  refine Ct.ofJ RX4 rfl [some (.long x), none, some (.int v)] rfl (by decide) Nat.le.refl ?_
  refine j_iload_n dX4_drawn_0 rfl rfl ?_
  refine j_if_ge 8 dX4_drawn_1 (by decide) (fun b1 => ?_) (fun b1 => ?_)
  · refine j_lload_n dX4_drawn_8 rfl rfl ?_
    refine j_iload_n dX4_drawn_9 rfl rfl ?_
    refine j_iconst (nI 1) dX4_drawn_10 rfl ?_
    refine j_iadd dX4_drawn_11 ?_
    refine j_i2l dX4_drawn_12 ?_
    refine j_lrem dX4_drawn_13 hne ?_
    refine j_l2i dX4_drawn_14 ?_
    exact j_iret rfl dX4_drawn_15 rfl rfl (Nat.le_of_ble_eq_true rfl) (Nat.le_of_ble_eq_true rfl)
  · exact absurd hv b1
theorem c_smallDebtsAreForgiven : Ct G yX4_smallDebtsAreForgiven cX4_smallDebtsAreForgiven 2 none 1 0 0 z (tw σ t ca inc pa de pe un ra qu hi fa) [.ref t] none z (tw σ t ca inc pa (fgv un de 49) pe un ra qu hi fa) := by
  refine Ct.ofJ RX4 rfl [some (.ref t), none] rfl (by decide) (by simp [Value.category]) ?_
  refine j_iconst (nI 0) dX4_smallDebtsAreForgiven_0 rfl ?_
  refine j_istore_n dX4_smallDebtsAreForgiven_1 rfl (Nat.le_of_ble_eq_true rfl) rfl ?_
  skip
  suffices H : ∀ (ki i : Nat), i ≤ 49 → 49 < i + ki → J G RX4 cX4_smallDebtsAreForgiven 2 none (TQ G 1 0 0 none z (tw σ t ca inc pa (fgv un de 49) pe un ra qu hi fa)) z (tw σ t ca inc pa (fgv un de i) pe un ra qu hi fa) 0 0 2 [some (.ref t), some (.int (nI i))] [] from H (49 + 1) 0 (by omega) (by omega)
  intro ki
  induction ki with
  | zero => intro i h1i h2i; exact absurd h2i (by omega)
  | succ ki ih =>
    intro i h1i h2i
    have e1 : fgv un de (i + 1) = if un ≤ fgv un de i i then fgv un de i else upd (fgv un de i) i (nI 0) := rfl
    refine j_iload_n dX4_smallDebtsAreForgiven_2 rfl rfl ?_
    refine j_bipush (nI 49) dX4_smallDebtsAreForgiven_3 rfl ?_
    refine j_icmp_geN 34 dX4_smallDebtsAreForgiven_5 (by decide) (by omega) (by omega) (fun b5 => ?_) (fun b5 => ?_)
    · obtain rfl : i = 49 := by omega
      exact j_vret rfl dX4_smallDebtsAreForgiven_34 rfl (Nat.le_of_ble_eq_true rfl) (Nat.le_of_ble_eq_true rfl)
    · refine j_aload_n dX4_smallDebtsAreForgiven_8 rfl rfl ?_
      refine j_getf dX4_smallDebtsAreForgiven_9 4 3 rfl (Nat.le_of_ble_eq_true rfl) fl_X4_21 in_4 (by first | exact tw_o | exact tw_c | exact tw_i | exact tw_p | exact tw_d) rfl ?_
      refine j_iload_n dX4_smallDebtsAreForgiven_12 rfl rfl ?_
      refine j_iald dX4_smallDebtsAreForgiven_13 (by first | exact tw_o | exact tw_c | exact tw_i | exact tw_p | exact tw_d) rfl (by omega) (by decide) ?_
      refine j_aload_n dX4_smallDebtsAreForgiven_14 rfl rfl ?_
      refine j_getf dX4_smallDebtsAreForgiven_15 4 5 rfl (Nat.le_of_ble_eq_true rfl) fl_X4_24 in_4 (by first | exact tw_o | exact tw_c | exact tw_i | exact tw_p | exact tw_d) rfl ?_
      refine j_icmp_ge 28 dX4_smallDebtsAreForgiven_18 (by decide) (fun b18 => ?_) (fun b18 => ?_)
      · first | refine j_iincN dX4_smallDebtsAreForgiven_28 rfl (Nat.le_of_ble_eq_true rfl) rfl ?_ | refine j_iinc _ dX4_smallDebtsAreForgiven_28 rfl rfl (Nat.le_of_ble_eq_true rfl) rfl ?_
        refine j_goto 2 dX4_smallDebtsAreForgiven_31 (by decide) ?_
        have ih2 := ih (i + 1) (by omega) (by omega)
        first | (rw [e1, if_pos b18] at ih2; exact ih2) | (rw [e1, if_neg b18] at ih2; exact ih2)
      · refine j_aload_n dX4_smallDebtsAreForgiven_21 rfl rfl ?_
        refine j_getf dX4_smallDebtsAreForgiven_22 4 3 rfl (Nat.le_of_ble_eq_true rfl) fl_X4_21 in_4 (by first | exact tw_o | exact tw_c | exact tw_i | exact tw_p | exact tw_d) rfl ?_
        refine j_iload_n dX4_smallDebtsAreForgiven_25 rfl rfl ?_
        refine j_iconst (nI 0) dX4_smallDebtsAreForgiven_26 rfl ?_
        refine j_iast dX4_smallDebtsAreForgiven_27 (by first | exact tw_o | exact tw_c | exact tw_i | exact tw_p | exact tw_d) rfl (by omega) (by decide) _ (by first | exact tws_o | exact tws_c | exact tws_i | exact tws_p | exact tws_d) ?_
        first | refine j_iincN dX4_smallDebtsAreForgiven_28 rfl (Nat.le_of_ble_eq_true rfl) rfl ?_ | refine j_iinc _ dX4_smallDebtsAreForgiven_28 rfl rfl (Nat.le_of_ble_eq_true rfl) rfl ?_
        refine j_goto 2 dX4_smallDebtsAreForgiven_31 (by decide) ?_
        have ih2 := ih (i + 1) (by omega) (by omega)
        first | (rw [e1, if_pos b18] at ih2; exact ih2) | (rw [e1, if_neg b18] at ih2; exact ih2)
theorem c_debtsGrow : Ct G yX4_debtsGrow cX4_debtsGrow 2 none 2 0 0 z (tw σ t ca inc pa de pe un ra qu hi fa) [.ref t] none z (tw σ t ca inc pa (grw ra de 49) pe un ra qu hi fa) := by
  refine Ct.ofJ RX4 rfl [some (.ref t), none] rfl (by decide) (by simp [Value.category]) ?_
  refine j_iconst (nI 0) dX4_debtsGrow_0 rfl ?_
  refine j_istore_n dX4_debtsGrow_1 rfl (Nat.le_of_ble_eq_true rfl) rfl ?_
  skip
  suffices H : ∀ (ki i : Nat), i ≤ 49 → 49 < i + ki → J G RX4 cX4_debtsGrow 2 none (TQ G 2 0 0 none z (tw σ t ca inc pa (grw ra de 49) pe un ra qu hi fa)) z (tw σ t ca inc pa (grw ra de i) pe un ra qu hi fa) 0 0 2 [some (.ref t), some (.int (nI i))] [] from H (49 + 1) 0 (by omega) (by omega)
  intro ki
  induction ki with
  | zero => intro i h1i h2i; exact absurd h2i (by omega)
  | succ ki ih =>
    intro i h1i h2i
    refine j_iload_n dX4_debtsGrow_2 rfl rfl ?_
    refine j_bipush (nI 49) dX4_debtsGrow_3 rfl ?_
    refine j_icmp_geN 46 dX4_debtsGrow_5 (by decide) (by omega) (by omega) (fun b5 => ?_) (fun b5 => ?_)
    · obtain rfl : i = 49 := by omega
      exact j_vret rfl dX4_debtsGrow_46 rfl (Nat.le_of_ble_eq_true rfl) (Nat.le_of_ble_eq_true rfl)
    · refine j_aload_n dX4_debtsGrow_8 rfl rfl ?_
      refine j_getf dX4_debtsGrow_9 4 3 rfl (Nat.le_of_ble_eq_true rfl) fl_X4_21 in_4 (by first | exact tw_o | exact tw_c | exact tw_i | exact tw_p | exact tw_d) rfl ?_
      refine j_iload_n dX4_debtsGrow_12 rfl rfl ?_
      refine j_aload_n dX4_debtsGrow_13 rfl rfl ?_
      refine j_getf dX4_debtsGrow_14 4 3 rfl (Nat.le_of_ble_eq_true rfl) fl_X4_21 in_4 (by first | exact tw_o | exact tw_c | exact tw_i | exact tw_p | exact tw_d) rfl ?_
      refine j_iload_n dX4_debtsGrow_17 rfl rfl ?_
      refine j_iald dX4_debtsGrow_18 (by first | exact tw_o | exact tw_c | exact tw_i | exact tw_p | exact tw_d) rfl (by omega) (by decide) ?_
      refine j_aload_n dX4_debtsGrow_19 rfl rfl ?_
      refine j_getf dX4_debtsGrow_20 4 6 rfl (Nat.le_of_ble_eq_true rfl) fl_X4_37 in_4 (by first | exact tw_o | exact tw_c | exact tw_i | exact tw_p | exact tw_d) rfl ?_
      refine j_aload_n dX4_debtsGrow_23 rfl rfl ?_
      refine j_getf dX4_debtsGrow_24 4 3 rfl (Nat.le_of_ble_eq_true rfl) fl_X4_21 in_4 (by first | exact tw_o | exact tw_c | exact tw_i | exact tw_p | exact tw_d) rfl ?_
      refine j_iload_n dX4_debtsGrow_27 rfl rfl ?_
      refine j_iald dX4_debtsGrow_28 (by first | exact tw_o | exact tw_c | exact tw_i | exact tw_p | exact tw_d) rfl (by omega) (by decide) ?_
      first | refine j_imulN dX4_debtsGrow_29 ?_ | refine j_imul dX4_debtsGrow_29 ?_
      refine j_bipush (nI 100) dX4_debtsGrow_30 rfl ?_
      refine j_idiv dX4_debtsGrow_32 (by decide) ?_
      first | refine j_iaddN dX4_debtsGrow_33 ?_ | refine j_iadd dX4_debtsGrow_33 ?_
      refine j_ldc (99999) dX4_debtsGrow_34 kc_X4_105 ?_
      refine j_min dX4_debtsGrow_36 mm_X4_57 (Nat.le_of_ble_eq_true rfl) (Nat.le_of_ble_eq_true rfl) (Nat.le_of_ble_eq_true rfl) (Nat.le_of_ble_eq_true rfl) ?_
      refine j_iast dX4_debtsGrow_39 (by first | exact tw_o | exact tw_c | exact tw_i | exact tw_p | exact tw_d) rfl (by omega) (by decide) _ (by first | exact tws_o | exact tws_c | exact tws_i | exact tws_p | exact tws_d) ?_
      first | refine j_iincN dX4_debtsGrow_40 rfl (Nat.le_of_ble_eq_true rfl) rfl ?_ | refine j_iinc _ dX4_debtsGrow_40 rfl rfl (Nat.le_of_ble_eq_true rfl) rfl ?_
      refine j_goto 2 dX4_debtsGrow_43 (by decide) ?_
      exact ih (i + 1) (by omega) (by omega)
theorem c_becomesEmpty : Ct G yX4_becomesEmpty cX4_becomesEmpty 2 none 1 0 0 z (tw σ t ca inc pa de pe un ra qu hi fa) [.ref t] none z (tw σ t ca inc pa (fun _ => nI 0) (nI 0) (nI 1) (nI 0) (nI 0) (nI 0) (nI 0)) := by
  refine Ct.ofJ RX4 rfl [some (.ref t), none] rfl (by decide) (by simp [Value.category]) ?_
  refine j_iconst (nI 0) dX4_becomesEmpty_0 rfl ?_
  refine j_istore_n dX4_becomesEmpty_1 rfl (Nat.le_of_ble_eq_true rfl) rfl ?_
  skip
  suffices H : ∀ (ki i : Nat), i ≤ 49 → 49 < i + ki → J G RX4 cX4_becomesEmpty 2 none (TQ G 1 0 0 none z (tw σ t ca inc pa (fun _ => nI 0) (nI 0) (nI 1) (nI 0) (nI 0) (nI 0) (nI 0))) z (tw σ t ca inc pa (fil (nI 0) de i) pe un ra qu hi fa) 0 0 2 [some (.ref t), some (.int (nI i))] [] from H (49 + 1) 0 (by omega) (by omega)
  intro ki
  induction ki with
  | zero => intro i h1i h2i; exact absurd h2i (by omega)
  | succ ki ih =>
    intro i h1i h2i
    refine j_iload_n dX4_becomesEmpty_2 rfl rfl ?_
    refine j_bipush (nI 49) dX4_becomesEmpty_3 rfl ?_
    refine j_icmp_geN 21 dX4_becomesEmpty_5 (by decide) (by omega) (by omega) (fun b5 => ?_) (fun b5 => ?_)
    · obtain rfl : i = 49 := by omega
      refine j_arr (fun _ => nI 0) tw_d ?_ _ tws_d ?_
      · have key : ∀ n j, j < n → fil (nI 0) de n j = nI 0 := by
          intro n
          induction n with
          | zero => intro j h; omega
          | succ n ihn =>
            intro j h
            show upd (fil (nI 0) de n) n (nI 0) j = nI 0
            by_cases hj : j = n
            · subst hj; exact pk_us
            · rw [pk_un hj]; exact ihn j (by omega)
        exact fun j hj => key 49 j hj
      refine j_aload_n dX4_becomesEmpty_21 rfl rfl ?_
      refine j_iconst (nI 0) dX4_becomesEmpty_22 rfl ?_
      refine j_putf dX4_becomesEmpty_23 4 4 rfl (Nat.le_of_ble_eq_true rfl) fl_X4_34 in_4 tyX4 tyX4_ok nmX4 rfl rfl (by first | exact tw_o | exact tw_c | exact tw_i | exact tw_p | exact tw_d) (Nat.le_of_ble_eq_true rfl) _ (by first | exact tws_o | exact tws_c | exact tws_i | exact tws_p | exact tws_d) ?_
      refine j_aload_n dX4_becomesEmpty_26 rfl rfl ?_
      refine j_iconst (nI 1) dX4_becomesEmpty_27 rfl ?_
      refine j_putf dX4_becomesEmpty_28 4 5 rfl (Nat.le_of_ble_eq_true rfl) fl_X4_24 in_4 tyX4 tyX4_ok nmX4 rfl rfl (by first | exact tw_o | exact tw_c | exact tw_i | exact tw_p | exact tw_d) (Nat.le_of_ble_eq_true rfl) _ (by first | exact tws_o | exact tws_c | exact tws_i | exact tws_p | exact tws_d) ?_
      refine j_aload_n dX4_becomesEmpty_31 rfl rfl ?_
      refine j_iconst (nI 0) dX4_becomesEmpty_32 rfl ?_
      refine j_putf dX4_becomesEmpty_33 4 6 rfl (Nat.le_of_ble_eq_true rfl) fl_X4_37 in_4 tyX4 tyX4_ok nmX4 rfl rfl (by first | exact tw_o | exact tw_c | exact tw_i | exact tw_p | exact tw_d) (Nat.le_of_ble_eq_true rfl) _ (by first | exact tws_o | exact tws_c | exact tws_i | exact tws_p | exact tws_d) ?_
      refine j_aload_n dX4_becomesEmpty_36 rfl rfl ?_
      refine j_iconst (nI 0) dX4_becomesEmpty_37 rfl ?_
      refine j_putf dX4_becomesEmpty_38 4 7 rfl (Nat.le_of_ble_eq_true rfl) fl_X4_40 in_4 tyX4 tyX4_ok nmX4 rfl rfl (by first | exact tw_o | exact tw_c | exact tw_i | exact tw_p | exact tw_d) (Nat.le_of_ble_eq_true rfl) _ (by first | exact tws_o | exact tws_c | exact tws_i | exact tws_p | exact tws_d) ?_
      refine j_aload_n dX4_becomesEmpty_41 rfl rfl ?_
      refine j_iconst (nI 0) dX4_becomesEmpty_42 rfl ?_
      refine j_putf dX4_becomesEmpty_43 4 8 rfl (Nat.le_of_ble_eq_true rfl) fl_X4_43 in_4 tyX4 tyX4_ok nmX4 rfl rfl (by first | exact tw_o | exact tw_c | exact tw_i | exact tw_p | exact tw_d) (Nat.le_of_ble_eq_true rfl) _ (by first | exact tws_o | exact tws_c | exact tws_i | exact tws_p | exact tws_d) ?_
      refine j_aload_n dX4_becomesEmpty_46 rfl rfl ?_
      refine j_iconst (nI 0) dX4_becomesEmpty_47 rfl ?_
      refine j_putf dX4_becomesEmpty_48 4 9 rfl (Nat.le_of_ble_eq_true rfl) fl_X4_46 in_4 tyX4 tyX4_ok nmX4 rfl rfl (by first | exact tw_o | exact tw_c | exact tw_i | exact tw_p | exact tw_d) (Nat.le_of_ble_eq_true rfl) _ (by first | exact tws_o | exact tws_c | exact tws_i | exact tws_p | exact tws_d) ?_
      exact j_vret rfl dX4_becomesEmpty_51 rfl (Nat.le_of_ble_eq_true rfl) (Nat.le_of_ble_eq_true rfl)
    · refine j_aload_n dX4_becomesEmpty_8 rfl rfl ?_
      refine j_getf dX4_becomesEmpty_9 4 3 rfl (Nat.le_of_ble_eq_true rfl) fl_X4_21 in_4 (by first | exact tw_o | exact tw_c | exact tw_i | exact tw_p | exact tw_d) rfl ?_
      refine j_iload_n dX4_becomesEmpty_12 rfl rfl ?_
      refine j_iconst (nI 0) dX4_becomesEmpty_13 rfl ?_
      refine j_iast dX4_becomesEmpty_14 (by first | exact tw_o | exact tw_c | exact tw_i | exact tw_p | exact tw_d) rfl (by omega) (by decide) _ (by first | exact tws_o | exact tws_c | exact tws_i | exact tws_p | exact tws_d) ?_
      first | refine j_iincN dX4_becomesEmpty_15 rfl (Nat.le_of_ble_eq_true rfl) rfl ?_ | refine j_iinc _ dX4_becomesEmpty_15 rfl rfl (Nat.le_of_ble_eq_true rfl) rfl ?_
      refine j_goto 2 dX4_becomesEmpty_18 (by decide) ?_
      exact ih (i + 1) (by omega) (by omega)
end T4

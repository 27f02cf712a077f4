/-! THE TOWN's methods that change it -/
def pbC (ca : Nat → Int32) (a b : Nat) (n : Int32) : Nat → Int32 := upd (upd ca a (ca a - n)) b (upd ca a (ca a - n) b + n)
/-- TO PAY: cash, debts, how much was paid, behind the first k -/
def stl (p : Nat) (ca de : Nat → Int32) : Nat → (Nat → Int32) × (Nat → Int32) × Int32
  | 0 => (ca, de, nI 0)
  | b + 1 => (pbC (stl p ca de b).1 p b (minI ((stl p ca de b).1 p) ((stl p ca de b).2.1 (p * 7 + b))), upd (stl p ca de b).2.1 (p * 7 + b) ((stl p ca de b).2.1 (p * 7 + b) + -(minI ((stl p ca de b).1 p) ((stl p ca de b).2.1 (p * 7 + b)))), (stl p ca de b).2.2 + minI ((stl p ca de b).1 p) ((stl p ca de b).2.1 (p * 7 + b)))
/-- each of some is TO PAY: cash, debts, who owes yet -/
def stA (N : Nat) (so : Int32) (ca de : Nat → Int32) : Nat → (Nat → Int32) × (Nat → Int32) × Int32
  | 0 => (ca, de, nI 0)
  | p + 1 => if bitI so (nI p) = nI 1 then ((stl p (stA N so ca de p).1 (stA N so ca de p).2.1 N).1, (stl p (stA N so ca de p).1 (stA N so ca de p).2.1 N).2.1, if 0 < dsum (stl p (stA N so ca de p).1 (stA N so ca de p).2.1 N).2.1 N p then orI (stA N so ca de p).2.2 p else (stA N so ca de p).2.2) else stA N so ca de p
/-- HIDING: debts, how much was struck: of a, from b = a + 1 on, k of them -/
def strB (a : Nat) (s : (Nat → Int32) × Int32) : Nat → (Nat → Int32) × Int32
  | 0 => s
  | k + 1 => (upd (upd (strB a s k).1 (a * 7 + (a + 1 + k)) ((strB a s k).1 (a * 7 + (a + 1 + k)) + -(minI ((strB a s k).1 (a * 7 + (a + 1 + k))) ((strB a s k).1 ((a + 1 + k) * 7 + a))))) ((a + 1 + k) * 7 + a) (upd (strB a s k).1 (a * 7 + (a + 1 + k)) ((strB a s k).1 (a * 7 + (a + 1 + k)) + -(minI ((strB a s k).1 (a * 7 + (a + 1 + k))) ((strB a s k).1 ((a + 1 + k) * 7 + a)))) ((a + 1 + k) * 7 + a) + -(minI ((strB a s k).1 (a * 7 + (a + 1 + k))) ((strB a s k).1 ((a + 1 + k) * 7 + a)))), (strB a s k).2 + nI 2 * minI ((strB a s k).1 (a * 7 + (a + 1 + k))) ((strB a s k).1 ((a + 1 + k) * 7 + a)))
def strA (N : Nat) (de : Nat → Int32) : Nat → (Nat → Int32) × Int32
  | 0 => (de, nI 0)
  | a + 1 => strB a (strA N de a) (N - (a + 1))
theorem dX4_owesMore_0 : decode cX4_owesMore 0 = .ok (.aload_n 0, 1) := by decide +kernel
theorem dX4_owesMore_1 : decode cX4_owesMore 1 = .ok (.getfield 21, 3) := by decide +kernel
theorem dX4_owesMore_4 : decode cX4_owesMore 4 = .ok (.iload_n 1, 1) := by decide +kernel
theorem dX4_owesMore_5 : decode cX4_owesMore 5 = .ok (.bipush 7, 2) := by decide +kernel
theorem dX4_owesMore_7 : decode cX4_owesMore 7 = .ok (.imul, 1) := by decide +kernel
theorem dX4_owesMore_8 : decode cX4_owesMore 8 = .ok (.iload_n 2, 1) := by decide +kernel
theorem dX4_owesMore_9 : decode cX4_owesMore 9 = .ok (.iadd, 1) := by decide +kernel
theorem dX4_owesMore_10 : decode cX4_owesMore 10 = .ok (.dup2, 1) := by decide +kernel
theorem dX4_owesMore_11 : decode cX4_owesMore 11 = .ok (.iaload, 1) := by decide +kernel
theorem dX4_owesMore_12 : decode cX4_owesMore 12 = .ok (.iload_n 3, 1) := by decide +kernel
theorem dX4_owesMore_13 : decode cX4_owesMore 13 = .ok (.iadd, 1) := by decide +kernel
theorem dX4_owesMore_14 : decode cX4_owesMore 14 = .ok (.iastore, 1) := by decide +kernel
theorem dX4_owesMore_15 : decode cX4_owesMore 15 = .ok (.return_, 1) := by decide +kernel
theorem dX4_lends_0 : decode cX4_lends 0 = .ok (.aload_n 0, 1) := by decide +kernel
theorem dX4_lends_1 : decode cX4_lends 1 = .ok (.getfield 9, 3) := by decide +kernel
theorem dX4_lends_4 : decode cX4_lends 4 = .ok (.iload_n 1, 1) := by decide +kernel
theorem dX4_lends_5 : decode cX4_lends 5 = .ok (.dup2, 1) := by decide +kernel
theorem dX4_lends_6 : decode cX4_lends 6 = .ok (.iaload, 1) := by decide +kernel
theorem dX4_lends_7 : decode cX4_lends 7 = .ok (.iload_n 3, 1) := by decide +kernel
theorem dX4_lends_8 : decode cX4_lends 8 = .ok (.isub, 1) := by decide +kernel
theorem dX4_lends_9 : decode cX4_lends 9 = .ok (.iastore, 1) := by decide +kernel
theorem dX4_lends_10 : decode cX4_lends 10 = .ok (.aload_n 0, 1) := by decide +kernel
theorem dX4_lends_11 : decode cX4_lends 11 = .ok (.getfield 9, 3) := by decide +kernel
theorem dX4_lends_14 : decode cX4_lends 14 = .ok (.iload_n 2, 1) := by decide +kernel
theorem dX4_lends_15 : decode cX4_lends 15 = .ok (.dup2, 1) := by decide +kernel
theorem dX4_lends_16 : decode cX4_lends 16 = .ok (.iaload, 1) := by decide +kernel
theorem dX4_lends_17 : decode cX4_lends 17 = .ok (.iload_n 3, 1) := by decide +kernel
theorem dX4_lends_18 : decode cX4_lends 18 = .ok (.iadd, 1) := by decide +kernel
theorem dX4_lends_19 : decode cX4_lends 19 = .ok (.iastore, 1) := by decide +kernel
theorem dX4_lends_20 : decode cX4_lends 20 = .ok (.aload_n 0, 1) := by decide +kernel
theorem dX4_lends_21 : decode cX4_lends 21 = .ok (.iload_n 2, 1) := by decide +kernel
theorem dX4_lends_22 : decode cX4_lends 22 = .ok (.iload_n 1, 1) := by decide +kernel
theorem dX4_lends_23 : decode cX4_lends 23 = .ok (.iload_n 3, 1) := by decide +kernel
theorem dX4_lends_24 : decode cX4_lends 24 = .ok (.invokevirtual 71, 3) := by decide +kernel
theorem dX4_lends_27 : decode cX4_lends 27 = .ok (.return_, 1) := by decide +kernel
theorem dX4_paysBack_0 : decode cX4_paysBack 0 = .ok (.aload_n 0, 1) := by decide +kernel
theorem dX4_paysBack_1 : decode cX4_paysBack 1 = .ok (.getfield 9, 3) := by decide +kernel
theorem dX4_paysBack_4 : decode cX4_paysBack 4 = .ok (.iload_n 1, 1) := by decide +kernel
theorem dX4_paysBack_5 : decode cX4_paysBack 5 = .ok (.dup2, 1) := by decide +kernel
theorem dX4_paysBack_6 : decode cX4_paysBack 6 = .ok (.iaload, 1) := by decide +kernel
theorem dX4_paysBack_7 : decode cX4_paysBack 7 = .ok (.iload_n 3, 1) := by decide +kernel
theorem dX4_paysBack_8 : decode cX4_paysBack 8 = .ok (.isub, 1) := by decide +kernel
theorem dX4_paysBack_9 : decode cX4_paysBack 9 = .ok (.iastore, 1) := by decide +kernel
theorem dX4_paysBack_10 : decode cX4_paysBack 10 = .ok (.aload_n 0, 1) := by decide +kernel
theorem dX4_paysBack_11 : decode cX4_paysBack 11 = .ok (.getfield 9, 3) := by decide +kernel
theorem dX4_paysBack_14 : decode cX4_paysBack 14 = .ok (.iload_n 2, 1) := by decide +kernel
theorem dX4_paysBack_15 : decode cX4_paysBack 15 = .ok (.dup2, 1) := by decide +kernel
theorem dX4_paysBack_16 : decode cX4_paysBack 16 = .ok (.iaload, 1) := by decide +kernel
theorem dX4_paysBack_17 : decode cX4_paysBack 17 = .ok (.iload_n 3, 1) := by decide +kernel
theorem dX4_paysBack_18 : decode cX4_paysBack 18 = .ok (.iadd, 1) := by decide +kernel
theorem dX4_paysBack_19 : decode cX4_paysBack 19 = .ok (.iastore, 1) := by decide +kernel
theorem dX4_paysBack_20 : decode cX4_paysBack 20 = .ok (.aload_n 0, 1) := by decide +kernel
theorem dX4_paysBack_21 : decode cX4_paysBack 21 = .ok (.iload_n 1, 1) := by decide +kernel
theorem dX4_paysBack_22 : decode cX4_paysBack 22 = .ok (.iload_n 2, 1) := by decide +kernel
theorem dX4_paysBack_23 : decode cX4_paysBack 23 = .ok (.iload_n 3, 1) := by decide +kernel
theorem dX4_paysBack_24 : decode cX4_paysBack 24 = .ok (.ineg, 1) := by decide +kernel
theorem dX4_paysBack_25 : decode cX4_paysBack 25 = .ok (.invokevirtual 71, 3) := by decide +kernel
theorem dX4_paysBack_28 : decode cX4_paysBack 28 = .ok (.return_, 1) := by decide +kernel
theorem dX4_settle_0 : decode cX4_settle 0 = .ok (.iconst 0, 1) := by decide +kernel
theorem dX4_settle_1 : decode cX4_settle 1 = .ok (.istore_n 2, 1) := by decide +kernel
theorem dX4_settle_2 : decode cX4_settle 2 = .ok (.iconst 0, 1) := by decide +kernel
theorem dX4_settle_3 : decode cX4_settle 3 = .ok (.istore_n 3, 1) := by decide +kernel
theorem dX4_settle_4 : decode cX4_settle 4 = .ok (.iload_n 3, 1) := by decide +kernel
theorem dX4_settle_5 : decode cX4_settle 5 = .ok (.aload_n 0, 1) := by decide +kernel
theorem dX4_settle_6 : decode cX4_settle 6 = .ok (.getfield 34, 3) := by decide +kernel
theorem dX4_settle_9 : decode cX4_settle 9 = .ok (.if_icmp .ge 39, 3) := by decide +kernel
theorem dX4_settle_12 : decode cX4_settle 12 = .ok (.aload_n 0, 1) := by decide +kernel
theorem dX4_settle_13 : decode cX4_settle 13 = .ok (.getfield 9, 3) := by decide +kernel
theorem dX4_settle_16 : decode cX4_settle 16 = .ok (.iload_n 1, 1) := by decide +kernel
theorem dX4_settle_17 : decode cX4_settle 17 = .ok (.iaload, 1) := by decide +kernel
theorem dX4_settle_18 : decode cX4_settle 18 = .ok (.aload_n 0, 1) := by decide +kernel
theorem dX4_settle_19 : decode cX4_settle 19 = .ok (.iload_n 1, 1) := by decide +kernel
theorem dX4_settle_20 : decode cX4_settle 20 = .ok (.iload_n 3, 1) := by decide +kernel
theorem dX4_settle_21 : decode cX4_settle 21 = .ok (.invokevirtual 49, 3) := by decide +kernel
theorem dX4_settle_24 : decode cX4_settle 24 = .ok (.invokestatic 57, 3) := by decide +kernel
theorem dX4_settle_27 : decode cX4_settle 27 = .ok (.istore 4, 2) := by decide +kernel
theorem dX4_settle_29 : decode cX4_settle 29 = .ok (.aload_n 0, 1) := by decide +kernel
theorem dX4_settle_30 : decode cX4_settle 30 = .ok (.iload_n 1, 1) := by decide +kernel
theorem dX4_settle_31 : decode cX4_settle 31 = .ok (.iload_n 3, 1) := by decide +kernel
theorem dX4_settle_32 : decode cX4_settle 32 = .ok (.iload 4, 2) := by decide +kernel
theorem dX4_settle_34 : decode cX4_settle 34 = .ok (.invokevirtual 75, 3) := by decide +kernel
theorem dX4_settle_37 : decode cX4_settle 37 = .ok (.iload_n 2, 1) := by decide +kernel
theorem dX4_settle_38 : decode cX4_settle 38 = .ok (.iload 4, 2) := by decide +kernel
theorem dX4_settle_40 : decode cX4_settle 40 = .ok (.iadd, 1) := by decide +kernel
theorem dX4_settle_41 : decode cX4_settle 41 = .ok (.istore_n 2, 1) := by decide +kernel
theorem dX4_settle_42 : decode cX4_settle 42 = .ok (.iinc 3 1, 3) := by decide +kernel
theorem dX4_settle_45 : decode cX4_settle 45 = .ok (.goto (-41), 3) := by decide +kernel
theorem dX4_settle_48 : decode cX4_settle 48 = .ok (.iload_n 2, 1) := by decide +kernel
theorem dX4_settle_49 : decode cX4_settle 49 = .ok (.ireturn, 1) := by decide +kernel
theorem dX4_settleAll_0 : decode cX4_settleAll 0 = .ok (.iconst 0, 1) := by decide +kernel
theorem dX4_settleAll_1 : decode cX4_settleAll 1 = .ok (.istore_n 2, 1) := by decide +kernel
theorem dX4_settleAll_2 : decode cX4_settleAll 2 = .ok (.iconst 0, 1) := by decide +kernel
theorem dX4_settleAll_3 : decode cX4_settleAll 3 = .ok (.istore_n 3, 1) := by decide +kernel
theorem dX4_settleAll_4 : decode cX4_settleAll 4 = .ok (.iload_n 3, 1) := by decide +kernel
theorem dX4_settleAll_5 : decode cX4_settleAll 5 = .ok (.aload_n 0, 1) := by decide +kernel
theorem dX4_settleAll_6 : decode cX4_settleAll 6 = .ok (.getfield 34, 3) := by decide +kernel
theorem dX4_settleAll_9 : decode cX4_settleAll 9 = .ok (.if_icmp .ge 38, 3) := by decide +kernel
theorem dX4_settleAll_12 : decode cX4_settleAll 12 = .ok (.iload_n 1, 1) := by decide +kernel
theorem dX4_settleAll_13 : decode cX4_settleAll 13 = .ok (.iload_n 3, 1) := by decide +kernel
theorem dX4_settleAll_14 : decode cX4_settleAll 14 = .ok (.invokestatic 65, 3) := by decide +kernel
theorem dX4_settleAll_17 : decode cX4_settleAll 17 = .ok (.iconst 1, 1) := by decide +kernel
theorem dX4_settleAll_18 : decode cX4_settleAll 18 = .ok (.if_icmp .ne 23, 3) := by decide +kernel
theorem dX4_settleAll_21 : decode cX4_settleAll 21 = .ok (.aload_n 0, 1) := by decide +kernel
theorem dX4_settleAll_22 : decode cX4_settleAll 22 = .ok (.iload_n 3, 1) := by decide +kernel
theorem dX4_settleAll_23 : decode cX4_settleAll 23 = .ok (.invokevirtual 78, 3) := by decide +kernel
theorem dX4_settleAll_26 : decode cX4_settleAll 26 = .ok (.pop, 1) := by decide +kernel
theorem dX4_settleAll_27 : decode cX4_settleAll 27 = .ok (.aload_n 0, 1) := by decide +kernel
theorem dX4_settleAll_28 : decode cX4_settleAll 28 = .ok (.iload_n 3, 1) := by decide +kernel
theorem dX4_settleAll_29 : decode cX4_settleAll 29 = .ok (.invokevirtual 53, 3) := by decide +kernel
theorem dX4_settleAll_32 : decode cX4_settleAll 32 = .ok (.ifCond .le 9, 3) := by decide +kernel
theorem dX4_settleAll_35 : decode cX4_settleAll 35 = .ok (.iload_n 2, 1) := by decide +kernel
theorem dX4_settleAll_36 : decode cX4_settleAll 36 = .ok (.iconst 1, 1) := by decide +kernel
theorem dX4_settleAll_37 : decode cX4_settleAll 37 = .ok (.iload_n 3, 1) := by decide +kernel
theorem dX4_settleAll_38 : decode cX4_settleAll 38 = .ok (.ishl, 1) := by decide +kernel
theorem dX4_settleAll_39 : decode cX4_settleAll 39 = .ok (.ior, 1) := by decide +kernel
theorem dX4_settleAll_40 : decode cX4_settleAll 40 = .ok (.istore_n 2, 1) := by decide +kernel
theorem dX4_settleAll_41 : decode cX4_settleAll 41 = .ok (.iinc 3 1, 3) := by decide +kernel
theorem dX4_settleAll_44 : decode cX4_settleAll 44 = .ok (.goto (-40), 3) := by decide +kernel
theorem dX4_settleAll_47 : decode cX4_settleAll 47 = .ok (.iload_n 2, 1) := by decide +kernel
theorem dX4_settleAll_48 : decode cX4_settleAll 48 = .ok (.ireturn, 1) := by decide +kernel
theorem dX4_strikeOutMutual_0 : decode cX4_strikeOutMutual 0 = .ok (.iconst 0, 1) := by decide +kernel
theorem dX4_strikeOutMutual_1 : decode cX4_strikeOutMutual 1 = .ok (.istore_n 1, 1) := by decide +kernel
theorem dX4_strikeOutMutual_2 : decode cX4_strikeOutMutual 2 = .ok (.iconst 0, 1) := by decide +kernel
theorem dX4_strikeOutMutual_3 : decode cX4_strikeOutMutual 3 = .ok (.istore_n 2, 1) := by decide +kernel
theorem dX4_strikeOutMutual_4 : decode cX4_strikeOutMutual 4 = .ok (.iload_n 2, 1) := by decide +kernel
theorem dX4_strikeOutMutual_5 : decode cX4_strikeOutMutual 5 = .ok (.aload_n 0, 1) := by decide +kernel
theorem dX4_strikeOutMutual_6 : decode cX4_strikeOutMutual 6 = .ok (.getfield 34, 3) := by decide +kernel
theorem dX4_strikeOutMutual_9 : decode cX4_strikeOutMutual 9 = .ok (.if_icmp .ge 69, 3) := by decide +kernel
theorem dX4_strikeOutMutual_12 : decode cX4_strikeOutMutual 12 = .ok (.iload_n 2, 1) := by decide +kernel
theorem dX4_strikeOutMutual_13 : decode cX4_strikeOutMutual 13 = .ok (.iconst 1, 1) := by decide +kernel
theorem dX4_strikeOutMutual_14 : decode cX4_strikeOutMutual 14 = .ok (.iadd, 1) := by decide +kernel
theorem dX4_strikeOutMutual_15 : decode cX4_strikeOutMutual 15 = .ok (.istore_n 3, 1) := by decide +kernel
theorem dX4_strikeOutMutual_16 : decode cX4_strikeOutMutual 16 = .ok (.iload_n 3, 1) := by decide +kernel
theorem dX4_strikeOutMutual_17 : decode cX4_strikeOutMutual 17 = .ok (.aload_n 0, 1) := by decide +kernel
theorem dX4_strikeOutMutual_18 : decode cX4_strikeOutMutual 18 = .ok (.getfield 34, 3) := by decide +kernel
theorem dX4_strikeOutMutual_21 : decode cX4_strikeOutMutual 21 = .ok (.if_icmp .ge 51, 3) := by decide +kernel
theorem dX4_strikeOutMutual_24 : decode cX4_strikeOutMutual 24 = .ok (.aload_n 0, 1) := by decide +kernel
theorem dX4_strikeOutMutual_25 : decode cX4_strikeOutMutual 25 = .ok (.iload_n 2, 1) := by decide +kernel
theorem dX4_strikeOutMutual_26 : decode cX4_strikeOutMutual 26 = .ok (.iload_n 3, 1) := by decide +kernel
theorem dX4_strikeOutMutual_27 : decode cX4_strikeOutMutual 27 = .ok (.invokevirtual 49, 3) := by decide +kernel
theorem dX4_strikeOutMutual_30 : decode cX4_strikeOutMutual 30 = .ok (.aload_n 0, 1) := by decide +kernel
theorem dX4_strikeOutMutual_31 : decode cX4_strikeOutMutual 31 = .ok (.iload_n 3, 1) := by decide +kernel
theorem dX4_strikeOutMutual_32 : decode cX4_strikeOutMutual 32 = .ok (.iload_n 2, 1) := by decide +kernel
theorem dX4_strikeOutMutual_33 : decode cX4_strikeOutMutual 33 = .ok (.invokevirtual 49, 3) := by decide +kernel
theorem dX4_strikeOutMutual_36 : decode cX4_strikeOutMutual 36 = .ok (.invokestatic 57, 3) := by decide +kernel
theorem dX4_strikeOutMutual_39 : decode cX4_strikeOutMutual 39 = .ok (.istore 4, 2) := by decide +kernel
theorem dX4_strikeOutMutual_41 : decode cX4_strikeOutMutual 41 = .ok (.aload_n 0, 1) := by decide +kernel
theorem dX4_strikeOutMutual_42 : decode cX4_strikeOutMutual 42 = .ok (.iload_n 2, 1) := by decide +kernel
theorem dX4_strikeOutMutual_43 : decode cX4_strikeOutMutual 43 = .ok (.iload_n 3, 1) := by decide +kernel
theorem dX4_strikeOutMutual_44 : decode cX4_strikeOutMutual 44 = .ok (.iload 4, 2) := by decide +kernel
theorem dX4_strikeOutMutual_46 : decode cX4_strikeOutMutual 46 = .ok (.ineg, 1) := by decide +kernel
theorem dX4_strikeOutMutual_47 : decode cX4_strikeOutMutual 47 = .ok (.invokevirtual 71, 3) := by decide +kernel
theorem dX4_strikeOutMutual_50 : decode cX4_strikeOutMutual 50 = .ok (.aload_n 0, 1) := by decide +kernel
theorem dX4_strikeOutMutual_51 : decode cX4_strikeOutMutual 51 = .ok (.iload_n 3, 1) := by decide +kernel
theorem dX4_strikeOutMutual_52 : decode cX4_strikeOutMutual 52 = .ok (.iload_n 2, 1) := by decide +kernel
theorem dX4_strikeOutMutual_53 : decode cX4_strikeOutMutual 53 = .ok (.iload 4, 2) := by decide +kernel
theorem dX4_strikeOutMutual_55 : decode cX4_strikeOutMutual 55 = .ok (.ineg, 1) := by decide +kernel
theorem dX4_strikeOutMutual_56 : decode cX4_strikeOutMutual 56 = .ok (.invokevirtual 71, 3) := by decide +kernel
theorem dX4_strikeOutMutual_59 : decode cX4_strikeOutMutual 59 = .ok (.iload_n 1, 1) := by decide +kernel
theorem dX4_strikeOutMutual_60 : decode cX4_strikeOutMutual 60 = .ok (.iconst 2, 1) := by decide +kernel
theorem dX4_strikeOutMutual_61 : decode cX4_strikeOutMutual 61 = .ok (.iload 4, 2) := by decide +kernel
theorem dX4_strikeOutMutual_63 : decode cX4_strikeOutMutual 63 = .ok (.imul, 1) := by decide +kernel
theorem dX4_strikeOutMutual_64 : decode cX4_strikeOutMutual 64 = .ok (.iadd, 1) := by decide +kernel
theorem dX4_strikeOutMutual_65 : decode cX4_strikeOutMutual 65 = .ok (.istore_n 1, 1) := by decide +kernel
theorem dX4_strikeOutMutual_66 : decode cX4_strikeOutMutual 66 = .ok (.iinc 3 1, 3) := by decide +kernel
theorem dX4_strikeOutMutual_69 : decode cX4_strikeOutMutual 69 = .ok (.goto (-53), 3) := by decide +kernel
theorem dX4_strikeOutMutual_72 : decode cX4_strikeOutMutual 72 = .ok (.iinc 2 1, 3) := by decide +kernel
theorem dX4_strikeOutMutual_75 : decode cX4_strikeOutMutual 75 = .ok (.goto (-71), 3) := by decide +kernel
theorem dX4_strikeOutMutual_78 : decode cX4_strikeOutMutual 78 = .ok (.iload_n 1, 1) := by decide +kernel
theorem dX4_strikeOutMutual_79 : decode cX4_strikeOutMutual 79 = .ok (.ireturn, 1) := by decide +kernel
section T3
variable (G : GG) (z : Nat) (σ : AH) (t : Nat) (ca inc pa de : Nat → Int32) (pe un ra qu hi fa : Int32)
theorem c_owesMore {a b : Nat} (x : Int32) (h : a * 7 + b < 49) : Ct G yX4_owesMore cX4_owesMore 4 none 1 0 0 z (tw σ t ca inc pa de pe un ra qu hi fa) [.ref t, .int (nI a), .int (nI b), .int x] none z (tw σ t ca inc pa (upd de (a * 7 + b) (de (a * 7 + b) + x)) pe un ra qu hi fa) := by
  refine Ct.ofJ RX4 rfl [some (.ref t), some (.int (nI a)), some (.int (nI b)), some (.int x)] rfl (by decide) Nat.le.refl ?_
  refine j_aload_n dX4_owesMore_0 rfl rfl ?_
  refine j_getf dX4_owesMore_1 4 3 rfl (Nat.le_of_ble_eq_true rfl) fl_X4_21 in_4 (by first | exact tw_o | exact tw_c | exact tw_i | exact tw_p | exact tw_d) rfl ?_
  refine j_iload_n dX4_owesMore_4 rfl rfl ?_
  refine j_bipush (nI 7) dX4_owesMore_5 rfl ?_
  first | refine j_imulN dX4_owesMore_7 ?_ | refine j_imul dX4_owesMore_7 ?_
  refine j_iload_n dX4_owesMore_8 rfl rfl ?_
  first | refine j_iaddN dX4_owesMore_9 ?_ | refine j_iadd dX4_owesMore_9 ?_
  refine j_dup2 dX4_owesMore_10 rfl rfl ?_
  refine j_iald dX4_owesMore_11 (by first | exact tw_o | exact tw_c | exact tw_i | exact tw_p | exact tw_d) rfl (by omega) (by decide) ?_
  refine j_iload_n dX4_owesMore_12 rfl rfl ?_
  first | refine j_iaddN dX4_owesMore_13 ?_ | refine j_iadd dX4_owesMore_13 ?_
  refine j_iast dX4_owesMore_14 (by first | exact tw_o | exact tw_c | exact tw_i | exact tw_p | exact tw_d) rfl (by omega) (by decide) _ (by first | exact tws_o | exact tws_c | exact tws_i | exact tws_p | exact tws_d) ?_
  exact j_vret rfl dX4_owesMore_15 rfl (Nat.le_of_ble_eq_true rfl) (Nat.le_of_ble_eq_true rfl)
theorem c_lends {a b : Nat} (x : Int32) (ha : a < 7) (hb : b < 7) : Ct G yX4_lends cX4_lends 4 none 2 0 0 z (tw σ t ca inc pa de pe un ra qu hi fa) [.ref t, .int (nI a), .int (nI b), .int x] none z (tw σ t (pbC ca a b x) inc pa (upd de (b * 7 + a) (de (b * 7 + a) + x)) pe un ra qu hi fa) := by
  refine Ct.ofJ RX4 rfl [some (.ref t), some (.int (nI a)), some (.int (nI b)), some (.int x)] rfl (by decide) Nat.le.refl ?_
  refine j_aload_n dX4_lends_0 rfl rfl ?_
  refine j_getf dX4_lends_1 4 0 rfl (Nat.le_of_ble_eq_true rfl) fl_X4_9 in_4 (by first | exact tw_o | exact tw_c | exact tw_i | exact tw_p | exact tw_d) rfl ?_
  refine j_iload_n dX4_lends_4 rfl rfl ?_
  refine j_dup2 dX4_lends_5 rfl rfl ?_
  refine j_iald dX4_lends_6 (by first | exact tw_o | exact tw_c | exact tw_i | exact tw_p | exact tw_d) rfl (by omega) (by decide) ?_
  refine j_iload_n dX4_lends_7 rfl rfl ?_
  refine j_isub dX4_lends_8 ?_
  refine j_iast dX4_lends_9 (by first | exact tw_o | exact tw_c | exact tw_i | exact tw_p | exact tw_d) rfl (by omega) (by decide) _ (by first | exact tws_o | exact tws_c | exact tws_i | exact tws_p | exact tws_d) ?_
  refine j_aload_n dX4_lends_10 rfl rfl ?_
  refine j_getf dX4_lends_11 4 0 rfl (Nat.le_of_ble_eq_true rfl) fl_X4_9 in_4 (by first | exact tw_o | exact tw_c | exact tw_i | exact tw_p | exact tw_d) rfl ?_
  refine j_iload_n dX4_lends_14 rfl rfl ?_
  refine j_dup2 dX4_lends_15 rfl rfl ?_
  refine j_iald dX4_lends_16 (by first | exact tw_o | exact tw_c | exact tw_i | exact tw_p | exact tw_d) rfl (by omega) (by decide) ?_
  refine j_iload_n dX4_lends_17 rfl rfl ?_
  first | refine j_iaddN dX4_lends_18 ?_ | refine j_iadd dX4_lends_18 ?_
  refine j_iast dX4_lends_19 (by first | exact tw_o | exact tw_c | exact tw_i | exact tw_p | exact tw_d) rfl (by omega) (by decide) _ (by first | exact tws_o | exact tws_c | exact tws_i | exact tws_p | exact tws_d) ?_
  refine j_aload_n dX4_lends_20 rfl rfl ?_
  refine j_iload_n dX4_lends_21 rfl rfl ?_
  refine j_iload_n dX4_lends_22 rfl rfl ?_
  refine j_iload_n dX4_lends_23 rfl rfl ?_
  refine j_callV (c_owesMore G z σ t _ inc pa de pe un ra qu hi fa x (by omega)) dX4_lends_24 rfl mv_X4_71 (by first | exact tw_o | exact tw_c | exact tw_i | exact tw_p | exact tw_d) rfl ⟨(Nat.le_of_ble_eq_true rfl), (Nat.le_of_ble_eq_true rfl)⟩ ⟨(Nat.le_of_ble_eq_true rfl), (Nat.le_of_ble_eq_true rfl)⟩ (Nat.le_of_ble_eq_true rfl) ?_
  exact j_vret rfl dX4_lends_27 rfl (Nat.le_of_ble_eq_true rfl) (Nat.le_of_ble_eq_true rfl)
theorem c_paysBack {a b : Nat} (x : Int32) (ha : a < 7) (hb : b < 7) : Ct G yX4_paysBack cX4_paysBack 4 none 2 0 0 z (tw σ t ca inc pa de pe un ra qu hi fa) [.ref t, .int (nI a), .int (nI b), .int x] none z (tw σ t (pbC ca a b x) inc pa (upd de (a * 7 + b) (de (a * 7 + b) + -x)) pe un ra qu hi fa) := by
  refine Ct.ofJ RX4 rfl [some (.ref t), some (.int (nI a)), some (.int (nI b)), some (.int x)] rfl (by decide) Nat.le.refl ?_
  refine j_aload_n dX4_paysBack_0 rfl rfl ?_
  refine j_getf dX4_paysBack_1 4 0 rfl (Nat.le_of_ble_eq_true rfl) fl_X4_9 in_4 (by first | exact tw_o | exact tw_c | exact tw_i | exact tw_p | exact tw_d) rfl ?_
  refine j_iload_n dX4_paysBack_4 rfl rfl ?_
  refine j_dup2 dX4_paysBack_5 rfl rfl ?_
  refine j_iald dX4_paysBack_6 (by first | exact tw_o | exact tw_c | exact tw_i | exact tw_p | exact tw_d) rfl (by omega) (by decide) ?_
  refine j_iload_n dX4_paysBack_7 rfl rfl ?_
  refine j_isub dX4_paysBack_8 ?_
  refine j_iast dX4_paysBack_9 (by first | exact tw_o | exact tw_c | exact tw_i | exact tw_p | exact tw_d) rfl (by omega) (by decide) _ (by first | exact tws_o | exact tws_c | exact tws_i | exact tws_p | exact tws_d) ?_
  refine j_aload_n dX4_paysBack_10 rfl rfl ?_
  refine j_getf dX4_paysBack_11 4 0 rfl (Nat.le_of_ble_eq_true rfl) fl_X4_9 in_4 (by first | exact tw_o | exact tw_c | exact tw_i | exact tw_p | exact tw_d) rfl ?_
  refine j_iload_n dX4_paysBack_14 rfl rfl ?_
  refine j_dup2 dX4_paysBack_15 rfl rfl ?_
  refine j_iald dX4_paysBack_16 (by first | exact tw_o | exact tw_c | exact tw_i | exact tw_p | exact tw_d) rfl (by omega) (by decide) ?_
  refine j_iload_n dX4_paysBack_17 rfl rfl ?_
  first | refine j_iaddN dX4_paysBack_18 ?_ | refine j_iadd dX4_paysBack_18 ?_
  refine j_iast dX4_paysBack_19 (by first | exact tw_o | exact tw_c | exact tw_i | exact tw_p | exact tw_d) rfl (by omega) (by decide) _ (by first | exact tws_o | exact tws_c | exact tws_i | exact tws_p | exact tws_d) ?_
  refine j_aload_n dX4_paysBack_20 rfl rfl ?_
  refine j_iload_n dX4_paysBack_21 rfl rfl ?_
  refine j_iload_n dX4_paysBack_22 rfl rfl ?_
  refine j_iload_n dX4_paysBack_23 rfl rfl ?_
  refine j_ineg dX4_paysBack_24 ?_
  refine j_callV (c_owesMore G z σ t _ inc pa de pe un ra qu hi fa (-x) (by omega)) dX4_paysBack_25 rfl mv_X4_71 (by first | exact tw_o | exact tw_c | exact tw_i | exact tw_p | exact tw_d) rfl ⟨(Nat.le_of_ble_eq_true rfl), (Nat.le_of_ble_eq_true rfl)⟩ ⟨(Nat.le_of_ble_eq_true rfl), (Nat.le_of_ble_eq_true rfl)⟩ (Nat.le_of_ble_eq_true rfl) ?_
  exact j_vret rfl dX4_paysBack_28 rfl (Nat.le_of_ble_eq_true rfl) (Nat.le_of_ble_eq_true rfl)
theorem c_settle {N p : Nat} (hN : N ≤ 7) (hp : p < 7) : Ct G yX4_settle cX4_settle 5 (some .int) 3 0 0 z (tw σ t ca inc pa de (nI N) un ra qu hi fa) [.ref t, .int (nI p)] (some (.int (stl p ca de N).2.2)) z (tw σ t (stl p ca de N).1 inc pa (stl p ca de N).2.1 (nI N) un ra qu hi fa) := by
  refine Ct.ofJ RX4 rfl [some (.ref t), some (.int (nI p)), none, none, none] rfl (by decide) (by simp [Value.category]) ?_
  refine j_iconst (nI 0) dX4_settle_0 rfl ?_
  refine j_istore_n dX4_settle_1 rfl (Nat.le_of_ble_eq_true rfl) rfl ?_
  refine j_iconst (nI 0) dX4_settle_2 rfl ?_
  refine j_istore_n dX4_settle_3 rfl (Nat.le_of_ble_eq_true rfl) rfl ?_
  suffices H : ∀ (k i : Nat) (o : Option Value), (∀ v, o = some v → v.category = 1) → i ≤ N → N < i + k → J G RX4 cX4_settle 5 (some .int) (TQ G 3 0 0 (some (.int (stl p ca de N).2.2)) z (tw σ t (stl p ca de N).1 inc pa (stl p ca de N).2.1 (nI N) un ra qu hi fa)) z (tw σ t (stl p ca de i).1 inc pa (stl p ca de i).2.1 (nI N) un ra qu hi fa) 0 0 4 [some (.ref t), some (.int (nI p)), some (.int (stl p ca de i).2.2), some (.int (nI i)), o] [] from H (N + 1) 0 none (by intro v h; cases h) (by omega) (by omega)
  intro k
  induction k with
  | zero => intro i o ho h1 h2; exact absurd h2 (by omega)
  | succ k ih =>
    intro i o ho h1 h2
    refine j_iload_n dX4_settle_4 rfl rfl ?_
    refine j_aload_n dX4_settle_5 rfl rfl ?_
    refine j_getf dX4_settle_6 4 4 rfl (Nat.le_of_ble_eq_true rfl) fl_X4_34 in_4 (by first | exact tw_o | exact tw_c | exact tw_i | exact tw_p | exact tw_d) rfl ?_
    refine j_icmp_geN 48 dX4_settle_9 (by decide) (by omega) (by omega) (fun b9 => ?_) (fun b9 => ?_)
    · obtain rfl : i = N := by omega
      refine j_iload_n dX4_settle_48 rfl rfl ?_
      exact j_iret rfl dX4_settle_49 rfl rfl (Nat.le_of_ble_eq_true rfl) (Nat.le_of_ble_eq_true rfl)
    · refine j_aload_n dX4_settle_12 rfl rfl ?_
      refine j_getf dX4_settle_13 4 0 rfl (Nat.le_of_ble_eq_true rfl) fl_X4_9 in_4 (by first | exact tw_o | exact tw_c | exact tw_i | exact tw_p | exact tw_d) rfl ?_
      refine j_iload_n dX4_settle_16 rfl rfl ?_
      refine j_iald dX4_settle_17 (by first | exact tw_o | exact tw_c | exact tw_i | exact tw_p | exact tw_d) rfl (by omega) (by decide) ?_
      refine j_aload_n dX4_settle_18 rfl rfl ?_
      refine j_iload_n dX4_settle_19 rfl rfl ?_
      refine j_iload_n dX4_settle_20 rfl rfl ?_
      refine j_callV (c_debtOf G z σ t _ inc pa _ (nI N) un ra qu hi fa (by omega)) dX4_settle_21 rfl mv_X4_49 (by first | exact tw_o | exact tw_c | exact tw_i | exact tw_p | exact tw_d) rfl ⟨(Nat.le_of_ble_eq_true rfl), (Nat.le_of_ble_eq_true rfl)⟩ ⟨(Nat.le_of_ble_eq_true rfl), (Nat.le_of_ble_eq_true rfl)⟩ (Nat.le_of_ble_eq_true rfl) ?_
      refine j_min dX4_settle_24 mm_X4_57 (Nat.le_of_ble_eq_true rfl) (Nat.le_of_ble_eq_true rfl) (Nat.le_of_ble_eq_true rfl) (Nat.le_of_ble_eq_true rfl) ?_
      refine j_istore dX4_settle_27 (Nat.le_of_ble_eq_true rfl) rfl ?_
      refine j_aload_n dX4_settle_29 rfl rfl ?_
      refine j_iload_n dX4_settle_30 rfl rfl ?_
      refine j_iload_n dX4_settle_31 rfl rfl ?_
      refine j_iload dX4_settle_32 rfl ?_
      refine j_callV (c_paysBack G z σ t _ inc pa _ (nI N) un ra qu hi fa (minI ((stl p ca de i).1 p) ((stl p ca de i).2.1 (p * 7 + i))) hp (by omega)) dX4_settle_34 rfl mv_X4_75 (by first | exact tw_o | exact tw_c | exact tw_i | exact tw_p | exact tw_d) rfl ⟨(Nat.le_of_ble_eq_true rfl), (Nat.le_of_ble_eq_true rfl)⟩ ⟨(Nat.le_of_ble_eq_true rfl), (Nat.le_of_ble_eq_true rfl)⟩ (Nat.le_of_ble_eq_true rfl) ?_
      refine j_iload_n dX4_settle_37 rfl rfl ?_
      refine j_iload dX4_settle_38 rfl ?_
      first | refine j_iaddN dX4_settle_40 ?_ | refine j_iadd dX4_settle_40 ?_
      refine j_istore_n dX4_settle_41 rfl (Nat.le_of_ble_eq_true rfl) rfl ?_
      first | refine j_iincN dX4_settle_42 rfl (Nat.le_of_ble_eq_true rfl) rfl ?_ | refine j_iinc _ dX4_settle_42 rfl rfl (Nat.le_of_ble_eq_true rfl) rfl ?_
      refine j_goto 4 dX4_settle_45 (by decide) ?_
      exact ih (i + 1) _ (by intro v h; cases h; rfl) (by omega) (by omega)
theorem c_settleAll {N : Nat} (so : Int32) (hN : N ≤ 7) : Ct G yX4_settleAll cX4_settleAll 4 (some .int) 4 0 0 z (tw σ t ca inc pa de (nI N) un ra qu hi fa) [.ref t, .int so] (some (.int (stA N so ca de N).2.2)) z (tw σ t (stA N so ca de N).1 inc pa (stA N so ca de N).2.1 (nI N) un ra qu hi fa) := by
  refine Ct.ofJ RX4 rfl [some (.ref t), some (.int so), none, none] rfl (by decide) (by simp [Value.category]) ?_
  refine j_iconst (nI 0) dX4_settleAll_0 rfl ?_
  refine j_istore_n dX4_settleAll_1 rfl (Nat.le_of_ble_eq_true rfl) rfl ?_
  refine j_iconst (nI 0) dX4_settleAll_2 rfl ?_
  refine j_istore_n dX4_settleAll_3 rfl (Nat.le_of_ble_eq_true rfl) rfl ?_
  skip
  suffices H : ∀ (ki i : Nat), i ≤ N → N < i + ki → J G RX4 cX4_settleAll 4 (some .int) (TQ G 4 0 0 (some (.int (stA N so ca de N).2.2)) z (tw σ t (stA N so ca de N).1 inc pa (stA N so ca de N).2.1 (nI N) un ra qu hi fa)) z (tw σ t (stA N so ca de i).1 inc pa (stA N so ca de i).2.1 (nI N) un ra qu hi fa) 0 0 4 [some (.ref t), some (.int so), some (.int (stA N so ca de i).2.2), some (.int (nI i))] [] from H (N + 1) 0 (by omega) (by omega)
  intro ki
  induction ki with
  | zero => intro i h1i h2i; exact absurd h2i (by omega)
  | succ ki ih =>
    intro i h1i h2i
    refine j_iload_n dX4_settleAll_4 rfl rfl ?_
    refine j_aload_n dX4_settleAll_5 rfl rfl ?_
    refine j_getf dX4_settleAll_6 4 4 rfl (Nat.le_of_ble_eq_true rfl) fl_X4_34 in_4 (by first | exact tw_o | exact tw_c | exact tw_i | exact tw_p | exact tw_d) rfl ?_
    refine j_icmp_geN 47 dX4_settleAll_9 (by decide) (by omega) (by omega) (fun b9 => ?_) (fun b9 => ?_)
    · obtain rfl : i = N := by omega
      refine j_iload_n dX4_settleAll_47 rfl rfl ?_
      exact j_iret rfl dX4_settleAll_48 rfl rfl (Nat.le_of_ble_eq_true rfl) (Nat.le_of_ble_eq_true rfl)
    · refine j_iload_n dX4_settleAll_12 rfl rfl ?_
      refine j_iload_n dX4_settleAll_13 rfl rfl ?_
      refine j_bitOf rfl (c_bitOf G z _ so (nI i)) dX4_settleAll_14 rfl mn_bitOf ⟨(Nat.le_of_ble_eq_true rfl), (Nat.le_of_ble_eq_true rfl)⟩ ⟨(Nat.le_of_ble_eq_true rfl), (Nat.le_of_ble_eq_true rfl)⟩ (Nat.le_of_ble_eq_true rfl) ?_
      refine j_iconst (nI 1) dX4_settleAll_17 rfl ?_
      refine j_icmp_ne 41 dX4_settleAll_18 (by decide) (fun b18 => ?_) (fun b18 => ?_)
      · first | refine j_iincN dX4_settleAll_41 rfl (Nat.le_of_ble_eq_true rfl) rfl ?_ | refine j_iinc _ dX4_settleAll_41 rfl rfl (Nat.le_of_ble_eq_true rfl) rfl ?_
        refine j_goto 4 dX4_settleAll_44 (by decide) ?_
        refine Eq.mp ?_ (ih (i + 1) (by omega) (by omega))
        simp only [stA]
        first | rw [if_neg (show ¬ bitI so (nI i) = nI 1 from b18)]; rfl | (rw [if_pos (show bitI so (nI i) = nI 1 from b18)]; first | (rw [if_pos (show 0 < dsum _ N i from Int32.not_le.mp b32)]; rfl) | (rw [if_neg (show ¬ 0 < dsum _ N i from Int32.not_lt.mpr b32)]; rfl))
      · refine j_aload_n dX4_settleAll_21 rfl rfl ?_
        refine j_iload_n dX4_settleAll_22 rfl rfl ?_
        refine j_callV (c_settle G z σ t _ inc pa _ un ra qu hi fa hN (by omega)) dX4_settleAll_23 rfl mv_X4_78 (by first | exact tw_o | exact tw_c | exact tw_i | exact tw_p | exact tw_d) rfl ⟨(Nat.le_of_ble_eq_true rfl), (Nat.le_of_ble_eq_true rfl)⟩ ⟨(Nat.le_of_ble_eq_true rfl), (Nat.le_of_ble_eq_true rfl)⟩ (Nat.le_of_ble_eq_true rfl) ?_
        refine j_pop dX4_settleAll_26 rfl ?_
        refine j_aload_n dX4_settleAll_27 rfl rfl ?_
        refine j_iload_n dX4_settleAll_28 rfl rfl ?_
        refine j_callV (c_owedBy G z σ t _ inc pa _ un ra qu hi fa hN (by omega)) dX4_settleAll_29 rfl mv_X4_53 (by first | exact tw_o | exact tw_c | exact tw_i | exact tw_p | exact tw_d) rfl ⟨(Nat.le_of_ble_eq_true rfl), (Nat.le_of_ble_eq_true rfl)⟩ ⟨(Nat.le_of_ble_eq_true rfl), (Nat.le_of_ble_eq_true rfl)⟩ (Nat.le_of_ble_eq_true rfl) ?_
        refine j_if_le 41 dX4_settleAll_32 (by decide) (fun b32 => ?_) (fun b32 => ?_)
        · first | refine j_iincN dX4_settleAll_41 rfl (Nat.le_of_ble_eq_true rfl) rfl ?_ | refine j_iinc _ dX4_settleAll_41 rfl rfl (Nat.le_of_ble_eq_true rfl) rfl ?_
          refine j_goto 4 dX4_settleAll_44 (by decide) ?_
          refine Eq.mp ?_ (ih (i + 1) (by omega) (by omega))
          simp only [stA]
          first | rw [if_neg (show ¬ bitI so (nI i) = nI 1 from b18)]; rfl | (rw [if_pos (show bitI so (nI i) = nI 1 from b18)]; first | (rw [if_pos (show 0 < dsum _ N i from Int32.not_le.mp b32)]; rfl) | (rw [if_neg (show ¬ 0 < dsum _ N i from Int32.not_lt.mpr b32)]; rfl))
        · refine j_iload_n dX4_settleAll_35 rfl rfl ?_
          refine j_iconst (nI 1) dX4_settleAll_36 rfl ?_
          refine j_iload_n dX4_settleAll_37 rfl rfl ?_
          refine j_ishl dX4_settleAll_38 ?_
          refine j_ior dX4_settleAll_39 ?_
          refine j_istore_n dX4_settleAll_40 rfl (Nat.le_of_ble_eq_true rfl) rfl ?_
          first | refine j_iincN dX4_settleAll_41 rfl (Nat.le_of_ble_eq_true rfl) rfl ?_ | refine j_iinc _ dX4_settleAll_41 rfl rfl (Nat.le_of_ble_eq_true rfl) rfl ?_
          refine j_goto 4 dX4_settleAll_44 (by decide) ?_
          refine Eq.mp ?_ (ih (i + 1) (by omega) (by omega))
          simp only [stA]
          first | rw [if_neg (show ¬ bitI so (nI i) = nI 1 from b18)]; rfl | (rw [if_pos (show bitI so (nI i) = nI 1 from b18)]; first | (rw [if_pos (show 0 < dsum _ N i from Int32.not_le.mp b32)]; rfl) | (rw [if_neg (show ¬ 0 < dsum _ N i from Int32.not_lt.mpr b32)]; rfl))
theorem c_strikeOutMutual {N : Nat} (hN : N ≤ 7) : Ct G yX4_strikeOutMutual cX4_strikeOutMutual 5 (some .int) 2 0 0 z (tw σ t ca inc pa de (nI N) un ra qu hi fa) [.ref t] (some (.int (strA N de N).2)) z (tw σ t ca inc pa (strA N de N).1 (nI N) un ra qu hi fa) := by
  refine Ct.ofJ RX4 rfl [some (.ref t), none, none, none, none] rfl (by decide) (by simp [Value.category]) ?_
  refine j_iconst (nI 0) dX4_strikeOutMutual_0 rfl ?_
  refine j_istore_n dX4_strikeOutMutual_1 rfl (Nat.le_of_ble_eq_true rfl) rfl ?_
  refine j_iconst (nI 0) dX4_strikeOutMutual_2 rfl ?_
  refine j_istore_n dX4_strikeOutMutual_3 rfl (Nat.le_of_ble_eq_true rfl) rfl ?_
  suffices H : ∀ (k a : Nat) (o1 o2 : Option Value), a ≤ N → N < a + k → J G RX4 cX4_strikeOutMutual 5 (some .int) (TQ G 2 0 0 (some (.int (strA N de N).2)) z (tw σ t ca inc pa (strA N de N).1 (nI N) un ra qu hi fa)) z (tw σ t ca inc pa (strA N de a).1 (nI N) un ra qu hi fa) 0 0 4 [some (.ref t), some (.int (strA N de a).2), some (.int (nI a)), o1, o2] [] from H (N + 1) 0 none none (by omega) (by omega)
  intro k
  induction k with
  | zero => intro a o1 o2 h1 h2; exact absurd h2 (by omega)
  | succ k ih =>
    intro a o1 o2 h1 h2
    refine j_iload_n dX4_strikeOutMutual_4 rfl rfl ?_
    refine j_aload_n dX4_strikeOutMutual_5 rfl rfl ?_
    refine j_getf dX4_strikeOutMutual_6 4 4 rfl (Nat.le_of_ble_eq_true rfl) fl_X4_34 in_4 (by first | exact tw_o | exact tw_c | exact tw_i | exact tw_p | exact tw_d) rfl ?_
    refine j_icmp_geN 78 dX4_strikeOutMutual_9 (by decide) (by omega) (by omega) (fun b9 => ?_) (fun b9 => ?_)
    · obtain rfl : a = N := by omega
      refine j_iload_n dX4_strikeOutMutual_78 rfl rfl ?_
      exact j_iret rfl dX4_strikeOutMutual_79 rfl rfl (Nat.le_of_ble_eq_true rfl) (Nat.le_of_ble_eq_true rfl)
    · refine j_iload_n dX4_strikeOutMutual_12 rfl rfl ?_
      refine j_iconst (nI 1) dX4_strikeOutMutual_13 rfl ?_
      first | refine j_iaddN dX4_strikeOutMutual_14 ?_ | refine j_iadd dX4_strikeOutMutual_14 ?_
      refine j_istore_n dX4_strikeOutMutual_15 rfl (Nat.le_of_ble_eq_true rfl) rfl ?_
      suffices H2 : ∀ (k2 b : Nat) (o2 : Option Value), a + 1 + b ≤ N → N < a + 1 + b + k2 → J G RX4 cX4_strikeOutMutual 5 (some .int) (TQ G 2 0 0 (some (.int (strA N de N).2)) z (tw σ t ca inc pa (strA N de N).1 (nI N) un ra qu hi fa)) z (tw σ t ca inc pa (strB a (strA N de a) b).1 (nI N) un ra qu hi fa) 0 0 16 [some (.ref t), some (.int (strB a (strA N de a) b).2), some (.int (nI a)), some (.int (nI (a + 1 + b))), o2] [] from H2 (N + 1) 0 o2 (by omega) (by omega)
      intro k2
      induction k2 with
      | zero => intro b o2 h3 h4; exact absurd h4 (by omega)
      | succ k2 ih2 =>
        intro b o2 h3 h4
        refine j_iload_n dX4_strikeOutMutual_16 rfl rfl ?_
        refine j_aload_n dX4_strikeOutMutual_17 rfl rfl ?_
        refine j_getf dX4_strikeOutMutual_18 4 4 rfl (Nat.le_of_ble_eq_true rfl) fl_X4_34 in_4 (by first | exact tw_o | exact tw_c | exact tw_i | exact tw_p | exact tw_d) rfl ?_
        refine j_icmp_geN 72 dX4_strikeOutMutual_21 (by decide) (by omega) (by omega) (fun b21 => ?_) (fun b21 => ?_)
        · first | refine j_iincN dX4_strikeOutMutual_72 rfl (Nat.le_of_ble_eq_true rfl) rfl ?_ | refine j_iinc _ dX4_strikeOutMutual_72 rfl rfl (Nat.le_of_ble_eq_true rfl) rfl ?_
          refine j_goto 4 dX4_strikeOutMutual_75 (by decide) ?_
          refine Eq.mp ?_ (ih (a + 1) (some (.int (nI (a + 1 + b)))) o2 (by omega) (by omega))
          rw [show b = N - (a + 1) by omega]; rfl
        · refine j_aload_n dX4_strikeOutMutual_24 rfl rfl ?_
          refine j_iload_n dX4_strikeOutMutual_25 rfl rfl ?_
          refine j_iload_n dX4_strikeOutMutual_26 rfl rfl ?_
          refine j_callV (c_debtOf G z σ t _ inc pa _ (nI N) un ra qu hi fa (by omega)) dX4_strikeOutMutual_27 rfl mv_X4_49 (by first | exact tw_o | exact tw_c | exact tw_i | exact tw_p | exact tw_d) rfl ⟨(Nat.le_of_ble_eq_true rfl), (Nat.le_of_ble_eq_true rfl)⟩ ⟨(Nat.le_of_ble_eq_true rfl), (Nat.le_of_ble_eq_true rfl)⟩ (Nat.le_of_ble_eq_true rfl) ?_
          refine j_aload_n dX4_strikeOutMutual_30 rfl rfl ?_
          refine j_iload_n dX4_strikeOutMutual_31 rfl rfl ?_
          refine j_iload_n dX4_strikeOutMutual_32 rfl rfl ?_
          refine j_callV (c_debtOf G z σ t _ inc pa _ (nI N) un ra qu hi fa (by omega)) dX4_strikeOutMutual_33 rfl mv_X4_49 (by first | exact tw_o | exact tw_c | exact tw_i | exact tw_p | exact tw_d) rfl ⟨(Nat.le_of_ble_eq_true rfl), (Nat.le_of_ble_eq_true rfl)⟩ ⟨(Nat.le_of_ble_eq_true rfl), (Nat.le_of_ble_eq_true rfl)⟩ (Nat.le_of_ble_eq_true rfl) ?_
          refine j_min dX4_strikeOutMutual_36 mm_X4_57 (Nat.le_of_ble_eq_true rfl) (Nat.le_of_ble_eq_true rfl) (Nat.le_of_ble_eq_true rfl) (Nat.le_of_ble_eq_true rfl) ?_
          refine j_istore dX4_strikeOutMutual_39 (Nat.le_of_ble_eq_true rfl) rfl ?_
          refine j_aload_n dX4_strikeOutMutual_41 rfl rfl ?_
          refine j_iload_n dX4_strikeOutMutual_42 rfl rfl ?_
          refine j_iload_n dX4_strikeOutMutual_43 rfl rfl ?_
          refine j_iload dX4_strikeOutMutual_44 rfl ?_
          refine j_ineg dX4_strikeOutMutual_46 ?_
          refine j_callV (c_owesMore G z σ t _ inc pa _ (nI N) un ra qu hi fa _ (by omega)) dX4_strikeOutMutual_47 rfl mv_X4_71 (by first | exact tw_o | exact tw_c | exact tw_i | exact tw_p | exact tw_d) rfl ⟨(Nat.le_of_ble_eq_true rfl), (Nat.le_of_ble_eq_true rfl)⟩ ⟨(Nat.le_of_ble_eq_true rfl), (Nat.le_of_ble_eq_true rfl)⟩ (Nat.le_of_ble_eq_true rfl) ?_
          refine j_aload_n dX4_strikeOutMutual_50 rfl rfl ?_
          refine j_iload_n dX4_strikeOutMutual_51 rfl rfl ?_
          refine j_iload_n dX4_strikeOutMutual_52 rfl rfl ?_
          refine j_iload dX4_strikeOutMutual_53 rfl ?_
          refine j_ineg dX4_strikeOutMutual_55 ?_
          refine j_callV (c_owesMore G z σ t _ inc pa _ (nI N) un ra qu hi fa _ (by omega)) dX4_strikeOutMutual_56 rfl mv_X4_71 (by first | exact tw_o | exact tw_c | exact tw_i | exact tw_p | exact tw_d) rfl ⟨(Nat.le_of_ble_eq_true rfl), (Nat.le_of_ble_eq_true rfl)⟩ ⟨(Nat.le_of_ble_eq_true rfl), (Nat.le_of_ble_eq_true rfl)⟩ (Nat.le_of_ble_eq_true rfl) ?_
          refine j_iload_n dX4_strikeOutMutual_59 rfl rfl ?_
          refine j_iconst (nI 2) dX4_strikeOutMutual_60 rfl ?_
          refine j_iload dX4_strikeOutMutual_61 rfl ?_
          first | refine j_imulN dX4_strikeOutMutual_63 ?_ | refine j_imul dX4_strikeOutMutual_63 ?_
          first | refine j_iaddN dX4_strikeOutMutual_64 ?_ | refine j_iadd dX4_strikeOutMutual_64 ?_
          refine j_istore_n dX4_strikeOutMutual_65 rfl (Nat.le_of_ble_eq_true rfl) rfl ?_
          first | refine j_iincN dX4_strikeOutMutual_66 rfl (Nat.le_of_ble_eq_true rfl) rfl ?_ | refine j_iinc _ dX4_strikeOutMutual_66 rfl rfl (Nat.le_of_ble_eq_true rfl) rfl ?_
          refine j_goto 16 dX4_strikeOutMutual_69 (by decide) ?_
          exact ih2 (b + 1) _ (by omega) (by omega)
end T3


/-! THE TOWN's methods that only look -/
def iter {α : Type} (f : Nat → α → α) : Nat → α → α
  | 0, x => x
  | n + 1, x => f n (iter f n x)
def bitI (x : Int32) (k : Int32) : Int32 := (x >>> (k &&& 31)) &&& nI 1
def orI (x : Int32) (k : Nat) : Int32 := x ||| (nI 1 <<< (nI k &&& 31))
def dsum (de : Nat → Int32) (N p : Nat) : Int32 := sumR (fun b => de (p * 7 + b)) N
def tsum (de : Nat → Int32) (N p : Nat) : Int32 := sumR (fun a => de (a * 7 + p)) N
def shd (de : Nat → Int32) (N u p : Nat) : Int32 := minI (dsum de N p / nI u) (nI 9)
def lks (pa de : Nat → Int32) (N u p : Nat) : Int32 := if pa p = -1 then shd de N u p else pa p
def cntD (de : Nat → Int32) (N a : Nat) (c : Nat) : Nat → Nat := fun k => iter (fun b c => if 0 < de (a * 7 + b) then c + 1 else c) k c
def cntDs (de : Nat → Int32) (N : Nat) : Nat → Nat := fun k => iter (fun a c => cntD de N a c N) k 0
def kindI (de : Nat → Int32) (fa : Int32) (N u p : Nat) : Int32 := if bitI fa (nI p) = nI 1 then nI 3 else if 0 < dsum de N p then (if shd de N u p < nI 7 then nI 1 else nI 2) else if 0 < tsum de N p then nI 5 else nI 4
def lendB (de : Nat → Int32) (some : Int32) (a : Nat) : Nat → Int32 → Int32 := iter (fun b s => if bitI some (nI a) = nI 1 ∧ 0 < de (a * 7 + b) then orI s b else s)
def lendA (de : Nat → Int32) (some : Int32) (N : Nat) : Nat → Int32 := fun k => iter (fun a s => lendB de some a N s) k (nI 0)
def seenI (pa de : Nat → Int32) (hi x : Int32) (N u : Nat) : Nat → Int32 := fun k => iter (fun p s => if bitI hi (nI p) = 0 ∧ x ≤ lks pa de N u p then orI s p else s) k (nI 0)
theorem dX4_owedTo_0 : decode cX4_owedTo 0 = .ok (.iconst 0, 1) := by decide +kernel
theorem dX4_owedTo_1 : decode cX4_owedTo 1 = .ok (.istore_n 2, 1) := by decide +kernel
theorem dX4_owedTo_2 : decode cX4_owedTo 2 = .ok (.iconst 0, 1) := by decide +kernel
theorem dX4_owedTo_3 : decode cX4_owedTo 3 = .ok (.istore_n 3, 1) := by decide +kernel
theorem dX4_owedTo_4 : decode cX4_owedTo 4 = .ok (.iload_n 3, 1) := by decide +kernel
theorem dX4_owedTo_5 : decode cX4_owedTo 5 = .ok (.aload_n 0, 1) := by decide +kernel
theorem dX4_owedTo_6 : decode cX4_owedTo 6 = .ok (.getfield 34, 3) := by decide +kernel
theorem dX4_owedTo_9 : decode cX4_owedTo 9 = .ok (.if_icmp .ge 18, 3) := by decide +kernel
theorem dX4_owedTo_12 : decode cX4_owedTo 12 = .ok (.iload_n 2, 1) := by decide +kernel
theorem dX4_owedTo_13 : decode cX4_owedTo 13 = .ok (.aload_n 0, 1) := by decide +kernel
theorem dX4_owedTo_14 : decode cX4_owedTo 14 = .ok (.iload_n 3, 1) := by decide +kernel
theorem dX4_owedTo_15 : decode cX4_owedTo 15 = .ok (.iload_n 1, 1) := by decide +kernel
theorem dX4_owedTo_16 : decode cX4_owedTo 16 = .ok (.invokevirtual 49, 3) := by decide +kernel
theorem dX4_owedTo_19 : decode cX4_owedTo 19 = .ok (.iadd, 1) := by decide +kernel
theorem dX4_owedTo_20 : decode cX4_owedTo 20 = .ok (.istore_n 2, 1) := by decide +kernel
theorem dX4_owedTo_21 : decode cX4_owedTo 21 = .ok (.iinc 3 1, 3) := by decide +kernel
theorem dX4_owedTo_24 : decode cX4_owedTo 24 = .ok (.goto (-20), 3) := by decide +kernel
theorem dX4_owedTo_27 : decode cX4_owedTo 27 = .ok (.iload_n 2, 1) := by decide +kernel
theorem dX4_owedTo_28 : decode cX4_owedTo 28 = .ok (.ireturn, 1) := by decide +kernel
theorem dX4_looksOf_0 : decode cX4_looksOf 0 = .ok (.aload_n 0, 1) := by decide +kernel
theorem dX4_looksOf_1 : decode cX4_looksOf 1 = .ok (.getfield 18, 3) := by decide +kernel
theorem dX4_looksOf_4 : decode cX4_looksOf 4 = .ok (.iload_n 1, 1) := by decide +kernel
theorem dX4_looksOf_5 : decode cX4_looksOf 5 = .ok (.iaload, 1) := by decide +kernel
theorem dX4_looksOf_6 : decode cX4_looksOf 6 = .ok (.iconst (-1), 1) := by decide +kernel
theorem dX4_looksOf_7 : decode cX4_looksOf 7 = .ok (.if_icmp .ne 11, 3) := by decide +kernel
theorem dX4_looksOf_10 : decode cX4_looksOf 10 = .ok (.aload_n 0, 1) := by decide +kernel
theorem dX4_looksOf_11 : decode cX4_looksOf 11 = .ok (.iload_n 1, 1) := by decide +kernel
theorem dX4_looksOf_12 : decode cX4_looksOf 12 = .ok (.invokevirtual 62, 3) := by decide +kernel
theorem dX4_looksOf_15 : decode cX4_looksOf 15 = .ok (.goto 9, 3) := by decide +kernel
theorem dX4_looksOf_18 : decode cX4_looksOf 18 = .ok (.aload_n 0, 1) := by decide +kernel
theorem dX4_looksOf_19 : decode cX4_looksOf 19 = .ok (.getfield 18, 3) := by decide +kernel
theorem dX4_looksOf_22 : decode cX4_looksOf 22 = .ok (.iload_n 1, 1) := by decide +kernel
theorem dX4_looksOf_23 : decode cX4_looksOf 23 = .ok (.iaload, 1) := by decide +kernel
theorem dX4_looksOf_24 : decode cX4_looksOf 24 = .ok (.ireturn, 1) := by decide +kernel
theorem dX4_debtsAboveNone_0 : decode cX4_debtsAboveNone 0 = .ok (.iconst 0, 1) := by decide +kernel
theorem dX4_debtsAboveNone_1 : decode cX4_debtsAboveNone 1 = .ok (.istore_n 1, 1) := by decide +kernel
theorem dX4_debtsAboveNone_2 : decode cX4_debtsAboveNone 2 = .ok (.iconst 0, 1) := by decide +kernel
theorem dX4_debtsAboveNone_3 : decode cX4_debtsAboveNone 3 = .ok (.istore_n 2, 1) := by decide +kernel
theorem dX4_debtsAboveNone_4 : decode cX4_debtsAboveNone 4 = .ok (.iload_n 2, 1) := by decide +kernel
theorem dX4_debtsAboveNone_5 : decode cX4_debtsAboveNone 5 = .ok (.aload_n 0, 1) := by decide +kernel
theorem dX4_debtsAboveNone_6 : decode cX4_debtsAboveNone 6 = .ok (.getfield 34, 3) := by decide +kernel
theorem dX4_debtsAboveNone_9 : decode cX4_debtsAboveNone 9 = .ok (.if_icmp .ge 37, 3) := by decide +kernel
theorem dX4_debtsAboveNone_12 : decode cX4_debtsAboveNone 12 = .ok (.iconst 0, 1) := by decide +kernel
theorem dX4_debtsAboveNone_13 : decode cX4_debtsAboveNone 13 = .ok (.istore_n 3, 1) := by decide +kernel
theorem dX4_debtsAboveNone_14 : decode cX4_debtsAboveNone 14 = .ok (.iload_n 3, 1) := by decide +kernel
theorem dX4_debtsAboveNone_15 : decode cX4_debtsAboveNone 15 = .ok (.aload_n 0, 1) := by decide +kernel
theorem dX4_debtsAboveNone_16 : decode cX4_debtsAboveNone 16 = .ok (.getfield 34, 3) := by decide +kernel
theorem dX4_debtsAboveNone_19 : decode cX4_debtsAboveNone 19 = .ok (.if_icmp .ge 21, 3) := by decide +kernel
theorem dX4_debtsAboveNone_22 : decode cX4_debtsAboveNone 22 = .ok (.aload_n 0, 1) := by decide +kernel
theorem dX4_debtsAboveNone_23 : decode cX4_debtsAboveNone 23 = .ok (.iload_n 2, 1) := by decide +kernel
theorem dX4_debtsAboveNone_24 : decode cX4_debtsAboveNone 24 = .ok (.iload_n 3, 1) := by decide +kernel
theorem dX4_debtsAboveNone_25 : decode cX4_debtsAboveNone 25 = .ok (.invokevirtual 49, 3) := by decide +kernel
theorem dX4_debtsAboveNone_28 : decode cX4_debtsAboveNone 28 = .ok (.ifCond .le 6, 3) := by decide +kernel
theorem dX4_debtsAboveNone_31 : decode cX4_debtsAboveNone 31 = .ok (.iinc 1 1, 3) := by decide +kernel
theorem dX4_debtsAboveNone_34 : decode cX4_debtsAboveNone 34 = .ok (.iinc 3 1, 3) := by decide +kernel
theorem dX4_debtsAboveNone_37 : decode cX4_debtsAboveNone 37 = .ok (.goto (-23), 3) := by decide +kernel
theorem dX4_debtsAboveNone_40 : decode cX4_debtsAboveNone 40 = .ok (.iinc 2 1, 3) := by decide +kernel
theorem dX4_debtsAboveNone_43 : decode cX4_debtsAboveNone 43 = .ok (.goto (-39), 3) := by decide +kernel
theorem dX4_debtsAboveNone_46 : decode cX4_debtsAboveNone 46 = .ok (.iload_n 1, 1) := by decide +kernel
theorem dX4_debtsAboveNone_47 : decode cX4_debtsAboveNone 47 = .ok (.ireturn, 1) := by decide +kernel
theorem dX4_cashOfAll_0 : decode cX4_cashOfAll 0 = .ok (.iconst 0, 1) := by decide +kernel
theorem dX4_cashOfAll_1 : decode cX4_cashOfAll 1 = .ok (.istore_n 1, 1) := by decide +kernel
theorem dX4_cashOfAll_2 : decode cX4_cashOfAll 2 = .ok (.iconst 0, 1) := by decide +kernel
theorem dX4_cashOfAll_3 : decode cX4_cashOfAll 3 = .ok (.istore_n 2, 1) := by decide +kernel
theorem dX4_cashOfAll_4 : decode cX4_cashOfAll 4 = .ok (.iload_n 2, 1) := by decide +kernel
theorem dX4_cashOfAll_5 : decode cX4_cashOfAll 5 = .ok (.aload_n 0, 1) := by decide +kernel
theorem dX4_cashOfAll_6 : decode cX4_cashOfAll 6 = .ok (.getfield 34, 3) := by decide +kernel
theorem dX4_cashOfAll_9 : decode cX4_cashOfAll 9 = .ok (.if_icmp .ge 18, 3) := by decide +kernel
theorem dX4_cashOfAll_12 : decode cX4_cashOfAll 12 = .ok (.iload_n 1, 1) := by decide +kernel
theorem dX4_cashOfAll_13 : decode cX4_cashOfAll 13 = .ok (.aload_n 0, 1) := by decide +kernel
theorem dX4_cashOfAll_14 : decode cX4_cashOfAll 14 = .ok (.getfield 9, 3) := by decide +kernel
theorem dX4_cashOfAll_17 : decode cX4_cashOfAll 17 = .ok (.iload_n 2, 1) := by decide +kernel
theorem dX4_cashOfAll_18 : decode cX4_cashOfAll 18 = .ok (.iaload, 1) := by decide +kernel
theorem dX4_cashOfAll_19 : decode cX4_cashOfAll 19 = .ok (.iadd, 1) := by decide +kernel
theorem dX4_cashOfAll_20 : decode cX4_cashOfAll 20 = .ok (.istore_n 1, 1) := by decide +kernel
theorem dX4_cashOfAll_21 : decode cX4_cashOfAll 21 = .ok (.iinc 2 1, 3) := by decide +kernel
theorem dX4_cashOfAll_24 : decode cX4_cashOfAll 24 = .ok (.goto (-20), 3) := by decide +kernel
theorem dX4_cashOfAll_27 : decode cX4_cashOfAll 27 = .ok (.iload_n 1, 1) := by decide +kernel
theorem dX4_cashOfAll_28 : decode cX4_cashOfAll 28 = .ok (.ireturn, 1) := by decide +kernel
theorem dX4_kindOf_0 : decode cX4_kindOf 0 = .ok (.aload_n 0, 1) := by decide +kernel
theorem dX4_kindOf_1 : decode cX4_kindOf 1 = .ok (.getfield 46, 3) := by decide +kernel
theorem dX4_kindOf_4 : decode cX4_kindOf 4 = .ok (.iload_n 1, 1) := by decide +kernel
theorem dX4_kindOf_5 : decode cX4_kindOf 5 = .ok (.invokestatic 65, 3) := by decide +kernel
theorem dX4_kindOf_8 : decode cX4_kindOf 8 = .ok (.iconst 1, 1) := by decide +kernel
theorem dX4_kindOf_9 : decode cX4_kindOf 9 = .ok (.if_icmp .ne 5, 3) := by decide +kernel
theorem dX4_kindOf_12 : decode cX4_kindOf 12 = .ok (.iconst 3, 1) := by decide +kernel
theorem dX4_kindOf_13 : decode cX4_kindOf 13 = .ok (.ireturn, 1) := by decide +kernel
theorem dX4_kindOf_14 : decode cX4_kindOf 14 = .ok (.aload_n 0, 1) := by decide +kernel
theorem dX4_kindOf_15 : decode cX4_kindOf 15 = .ok (.iload_n 1, 1) := by decide +kernel
theorem dX4_kindOf_16 : decode cX4_kindOf 16 = .ok (.invokevirtual 53, 3) := by decide +kernel
theorem dX4_kindOf_19 : decode cX4_kindOf 19 = .ok (.ifCond .le 19, 3) := by decide +kernel
theorem dX4_kindOf_22 : decode cX4_kindOf 22 = .ok (.aload_n 0, 1) := by decide +kernel
theorem dX4_kindOf_23 : decode cX4_kindOf 23 = .ok (.iload_n 1, 1) := by decide +kernel
theorem dX4_kindOf_24 : decode cX4_kindOf 24 = .ok (.invokevirtual 62, 3) := by decide +kernel
theorem dX4_kindOf_27 : decode cX4_kindOf 27 = .ok (.bipush 7, 2) := by decide +kernel
theorem dX4_kindOf_29 : decode cX4_kindOf 29 = .ok (.if_icmp .lt 7, 3) := by decide +kernel
theorem dX4_kindOf_32 : decode cX4_kindOf 32 = .ok (.iconst 2, 1) := by decide +kernel
theorem dX4_kindOf_33 : decode cX4_kindOf 33 = .ok (.goto 4, 3) := by decide +kernel
theorem dX4_kindOf_36 : decode cX4_kindOf 36 = .ok (.iconst 1, 1) := by decide +kernel
theorem dX4_kindOf_37 : decode cX4_kindOf 37 = .ok (.ireturn, 1) := by decide +kernel
theorem dX4_kindOf_38 : decode cX4_kindOf 38 = .ok (.aload_n 0, 1) := by decide +kernel
theorem dX4_kindOf_39 : decode cX4_kindOf 39 = .ok (.iload_n 1, 1) := by decide +kernel
theorem dX4_kindOf_40 : decode cX4_kindOf 40 = .ok (.invokevirtual 68, 3) := by decide +kernel
theorem dX4_kindOf_43 : decode cX4_kindOf 43 = .ok (.ifCond .le 7, 3) := by decide +kernel
theorem dX4_kindOf_46 : decode cX4_kindOf 46 = .ok (.iconst 5, 1) := by decide +kernel
theorem dX4_kindOf_47 : decode cX4_kindOf 47 = .ok (.goto 4, 3) := by decide +kernel
theorem dX4_kindOf_50 : decode cX4_kindOf 50 = .ok (.iconst 4, 1) := by decide +kernel
theorem dX4_kindOf_51 : decode cX4_kindOf 51 = .ok (.ireturn, 1) := by decide +kernel
theorem dX4_lendersOf_0 : decode cX4_lendersOf 0 = .ok (.iconst 0, 1) := by decide +kernel
theorem dX4_lendersOf_1 : decode cX4_lendersOf 1 = .ok (.istore_n 2, 1) := by decide +kernel
theorem dX4_lendersOf_2 : decode cX4_lendersOf 2 = .ok (.iconst 0, 1) := by decide +kernel
theorem dX4_lendersOf_3 : decode cX4_lendersOf 3 = .ok (.istore_n 3, 1) := by decide +kernel
theorem dX4_lendersOf_4 : decode cX4_lendersOf 4 = .ok (.iload_n 3, 1) := by decide +kernel
theorem dX4_lendersOf_5 : decode cX4_lendersOf 5 = .ok (.aload_n 0, 1) := by decide +kernel
theorem dX4_lendersOf_6 : decode cX4_lendersOf 6 = .ok (.getfield 34, 3) := by decide +kernel
theorem dX4_lendersOf_9 : decode cX4_lendersOf 9 = .ok (.if_icmp .ge 53, 3) := by decide +kernel
theorem dX4_lendersOf_12 : decode cX4_lendersOf 12 = .ok (.iconst 0, 1) := by decide +kernel
theorem dX4_lendersOf_13 : decode cX4_lendersOf 13 = .ok (.istore 4, 2) := by decide +kernel
theorem dX4_lendersOf_15 : decode cX4_lendersOf 15 = .ok (.iload 4, 2) := by decide +kernel
theorem dX4_lendersOf_17 : decode cX4_lendersOf 17 = .ok (.aload_n 0, 1) := by decide +kernel
theorem dX4_lendersOf_18 : decode cX4_lendersOf 18 = .ok (.getfield 34, 3) := by decide +kernel
theorem dX4_lendersOf_21 : decode cX4_lendersOf 21 = .ok (.if_icmp .ge 35, 3) := by decide +kernel
theorem dX4_lendersOf_24 : decode cX4_lendersOf 24 = .ok (.iload_n 1, 1) := by decide +kernel
theorem dX4_lendersOf_25 : decode cX4_lendersOf 25 = .ok (.iload_n 3, 1) := by decide +kernel
theorem dX4_lendersOf_26 : decode cX4_lendersOf 26 = .ok (.invokestatic 65, 3) := by decide +kernel
theorem dX4_lendersOf_29 : decode cX4_lendersOf 29 = .ok (.iconst 1, 1) := by decide +kernel
theorem dX4_lendersOf_30 : decode cX4_lendersOf 30 = .ok (.if_icmp .ne 20, 3) := by decide +kernel
theorem dX4_lendersOf_33 : decode cX4_lendersOf 33 = .ok (.aload_n 0, 1) := by decide +kernel
theorem dX4_lendersOf_34 : decode cX4_lendersOf 34 = .ok (.iload_n 3, 1) := by decide +kernel
theorem dX4_lendersOf_35 : decode cX4_lendersOf 35 = .ok (.iload 4, 2) := by decide +kernel
theorem dX4_lendersOf_37 : decode cX4_lendersOf 37 = .ok (.invokevirtual 49, 3) := by decide +kernel
theorem dX4_lendersOf_40 : decode cX4_lendersOf 40 = .ok (.ifCond .le 10, 3) := by decide +kernel
theorem dX4_lendersOf_43 : decode cX4_lendersOf 43 = .ok (.iload_n 2, 1) := by decide +kernel
theorem dX4_lendersOf_44 : decode cX4_lendersOf 44 = .ok (.iconst 1, 1) := by decide +kernel
theorem dX4_lendersOf_45 : decode cX4_lendersOf 45 = .ok (.iload 4, 2) := by decide +kernel
theorem dX4_lendersOf_47 : decode cX4_lendersOf 47 = .ok (.ishl, 1) := by decide +kernel
theorem dX4_lendersOf_48 : decode cX4_lendersOf 48 = .ok (.ior, 1) := by decide +kernel
theorem dX4_lendersOf_49 : decode cX4_lendersOf 49 = .ok (.istore_n 2, 1) := by decide +kernel
theorem dX4_lendersOf_50 : decode cX4_lendersOf 50 = .ok (.iinc 4 1, 3) := by decide +kernel
theorem dX4_lendersOf_53 : decode cX4_lendersOf 53 = .ok (.goto (-38), 3) := by decide +kernel
theorem dX4_lendersOf_56 : decode cX4_lendersOf 56 = .ok (.iinc 3 1, 3) := by decide +kernel
theorem dX4_lendersOf_59 : decode cX4_lendersOf 59 = .ok (.goto (-55), 3) := by decide +kernel
theorem dX4_lendersOf_62 : decode cX4_lendersOf 62 = .ok (.iload_n 2, 1) := by decide +kernel
theorem dX4_lendersOf_63 : decode cX4_lendersOf 63 = .ok (.ireturn, 1) := by decide +kernel
theorem dX4_seenFrom_0 : decode cX4_seenFrom 0 = .ok (.iconst 0, 1) := by decide +kernel
theorem dX4_seenFrom_1 : decode cX4_seenFrom 1 = .ok (.istore_n 2, 1) := by decide +kernel
theorem dX4_seenFrom_2 : decode cX4_seenFrom 2 = .ok (.iconst 0, 1) := by decide +kernel
theorem dX4_seenFrom_3 : decode cX4_seenFrom 3 = .ok (.istore_n 3, 1) := by decide +kernel
theorem dX4_seenFrom_4 : decode cX4_seenFrom 4 = .ok (.iload_n 3, 1) := by decide +kernel
theorem dX4_seenFrom_5 : decode cX4_seenFrom 5 = .ok (.aload_n 0, 1) := by decide +kernel
theorem dX4_seenFrom_6 : decode cX4_seenFrom 6 = .ok (.getfield 34, 3) := by decide +kernel
theorem dX4_seenFrom_9 : decode cX4_seenFrom 9 = .ok (.if_icmp .ge 35, 3) := by decide +kernel
theorem dX4_seenFrom_12 : decode cX4_seenFrom 12 = .ok (.aload_n 0, 1) := by decide +kernel
theorem dX4_seenFrom_13 : decode cX4_seenFrom 13 = .ok (.getfield 43, 3) := by decide +kernel
theorem dX4_seenFrom_16 : decode cX4_seenFrom 16 = .ok (.iload_n 3, 1) := by decide +kernel
theorem dX4_seenFrom_17 : decode cX4_seenFrom 17 = .ok (.invokestatic 65, 3) := by decide +kernel
theorem dX4_seenFrom_20 : decode cX4_seenFrom 20 = .ok (.ifCond .ne 18, 3) := by decide +kernel
theorem dX4_seenFrom_23 : decode cX4_seenFrom 23 = .ok (.aload_n 0, 1) := by decide +kernel
theorem dX4_seenFrom_24 : decode cX4_seenFrom 24 = .ok (.iload_n 3, 1) := by decide +kernel
theorem dX4_seenFrom_25 : decode cX4_seenFrom 25 = .ok (.invokevirtual 81, 3) := by decide +kernel
theorem dX4_seenFrom_28 : decode cX4_seenFrom 28 = .ok (.iload_n 1, 1) := by decide +kernel
theorem dX4_seenFrom_29 : decode cX4_seenFrom 29 = .ok (.if_icmp .lt 9, 3) := by decide +kernel
theorem dX4_seenFrom_32 : decode cX4_seenFrom 32 = .ok (.iload_n 2, 1) := by decide +kernel
theorem dX4_seenFrom_33 : decode cX4_seenFrom 33 = .ok (.iconst 1, 1) := by decide +kernel
theorem dX4_seenFrom_34 : decode cX4_seenFrom 34 = .ok (.iload_n 3, 1) := by decide +kernel
theorem dX4_seenFrom_35 : decode cX4_seenFrom 35 = .ok (.ishl, 1) := by decide +kernel
theorem dX4_seenFrom_36 : decode cX4_seenFrom 36 = .ok (.ior, 1) := by decide +kernel
theorem dX4_seenFrom_37 : decode cX4_seenFrom 37 = .ok (.istore_n 2, 1) := by decide +kernel
theorem dX4_seenFrom_38 : decode cX4_seenFrom 38 = .ok (.iinc 3 1, 3) := by decide +kernel
theorem dX4_seenFrom_41 : decode cX4_seenFrom 41 = .ok (.goto (-37), 3) := by decide +kernel
theorem dX4_seenFrom_44 : decode cX4_seenFrom 44 = .ok (.iload_n 2, 1) := by decide +kernel
theorem dX4_seenFrom_45 : decode cX4_seenFrom 45 = .ok (.ireturn, 1) := by decide +kernel
section T2
variable (G : GG) (z : Nat) (σ : AH) (t : Nat) (ca inc pa de : Nat → Int32) (pe un ra qu hi fa : Int32)
theorem c_owedTo {N p : Nat} (hN : N ≤ 7) (hp : p < 7) : Ct G yX4_owedTo cX4_owedTo 4 (some .int) 2 0 0 z (tw σ t ca inc pa de (nI N) un ra qu hi fa) [.ref t, .int (nI p)] (some (.int (tsum de N p))) z (tw σ t ca inc pa de (nI N) un ra qu hi fa) := by
  refine Ct.ofJ RX4 rfl [some (.ref t), some (.int (nI p)), none, none] rfl (by decide) (by simp [Value.category]) ?_
  refine j_iconst (nI 0) dX4_owedTo_0 rfl ?_
  refine j_istore_n dX4_owedTo_1 rfl (Nat.le_of_ble_eq_true rfl) rfl ?_
  refine j_iconst (nI 0) dX4_owedTo_2 rfl ?_
  refine j_istore_n dX4_owedTo_3 rfl (Nat.le_of_ble_eq_true rfl) rfl ?_
  suffices H : ∀ k i, i ≤ N → N < i + k → J G RX4 cX4_owedTo 4 (some .int) (TQ G 2 0 0 (some (.int (tsum de N p))) z (tw σ t ca inc pa de (nI N) un ra qu hi fa)) z (tw σ t ca inc pa de (nI N) un ra qu hi fa) 0 0 4 [some (.ref t), some (.int (nI p)), some (.int (sumR (fun a => de (a * 7 + p)) i)), some (.int (nI i))] [] from H (N + 1) 0 (by omega) (by omega)
  intro k
  induction k with
  | zero => intro i h1 h2; exact absurd h2 (by omega)
  | succ k ih =>
    intro i h1 h2
    refine j_iload_n dX4_owedTo_4 rfl rfl ?_
    refine j_aload_n dX4_owedTo_5 rfl rfl ?_
    refine j_getf dX4_owedTo_6 4 4 rfl (Nat.le_of_ble_eq_true rfl) fl_X4_34 in_4 (by first | exact tw_o | exact tw_c | exact tw_i | exact tw_p | exact tw_d) rfl ?_
    refine j_icmp_geN 27 dX4_owedTo_9 (by decide) (by omega) (by omega) (fun b9 => ?_) (fun b9 => ?_)
    · obtain rfl : i = N := by omega
      refine j_iload_n dX4_owedTo_27 rfl rfl ?_
      exact j_iret rfl dX4_owedTo_28 rfl rfl (Nat.le_of_ble_eq_true rfl) (Nat.le_of_ble_eq_true rfl)
    · refine j_iload_n dX4_owedTo_12 rfl rfl ?_
      refine j_aload_n dX4_owedTo_13 rfl rfl ?_
      refine j_iload_n dX4_owedTo_14 rfl rfl ?_
      refine j_iload_n dX4_owedTo_15 rfl rfl ?_
      refine j_callV (c_debtOf G z σ t ca inc pa de (nI N) un ra qu hi fa (by omega)) dX4_owedTo_16 rfl mv_X4_49 (by first | exact tw_o | exact tw_c | exact tw_i | exact tw_p | exact tw_d) rfl ⟨(Nat.le_of_ble_eq_true rfl), (Nat.le_of_ble_eq_true rfl)⟩ ⟨(Nat.le_of_ble_eq_true rfl), (Nat.le_of_ble_eq_true rfl)⟩ (Nat.le_of_ble_eq_true rfl) ?_
      first | refine j_iaddN dX4_owedTo_19 ?_ | refine j_iadd dX4_owedTo_19 ?_
      refine j_istore_n dX4_owedTo_20 rfl (Nat.le_of_ble_eq_true rfl) rfl ?_
      first | refine j_iincN dX4_owedTo_21 rfl (Nat.le_of_ble_eq_true rfl) rfl ?_ | refine j_iinc _ dX4_owedTo_21 rfl rfl (Nat.le_of_ble_eq_true rfl) rfl ?_
      refine j_goto 4 dX4_owedTo_24 (by decide) ?_
      exact ih (i + 1) (by omega) (by omega)
theorem c_looksOf {N p u : Nat} (hN : N ≤ 7) (hp : p < 7) (hu : 1 ≤ u) (hu2 : u ≤ 20) : Ct G yX4_looksOf cX4_looksOf 2 (some .int) 4 0 0 z (tw σ t ca inc pa de (nI N) (nI u) ra qu hi fa) [.ref t, .int (nI p)] (some (.int (lks pa de N u p))) z (tw σ t ca inc pa de (nI N) (nI u) ra qu hi fa) := by
  refine Ct.ofJ RX4 rfl [some (.ref t), some (.int (nI p))] rfl (by decide) Nat.le.refl ?_
  refine j_aload_n dX4_looksOf_0 rfl rfl ?_
  refine j_getf dX4_looksOf_1 4 2 rfl (Nat.le_of_ble_eq_true rfl) fl_X4_18 in_4 (by first | exact tw_o | exact tw_c | exact tw_i | exact tw_p | exact tw_d) rfl ?_
  refine j_iload_n dX4_looksOf_4 rfl rfl ?_
  refine j_iald dX4_looksOf_5 (by first | exact tw_o | exact tw_c | exact tw_i | exact tw_p | exact tw_d) rfl (by omega) (by decide) ?_
  refine j_iconst (-1) dX4_looksOf_6 rfl ?_
  refine j_icmp_ne 18 dX4_looksOf_7 (by decide) (fun b7 => ?_) (fun b7 => ?_)
  · refine j_aload_n dX4_looksOf_18 rfl rfl ?_
    refine j_getf dX4_looksOf_19 4 2 rfl (Nat.le_of_ble_eq_true rfl) fl_X4_18 in_4 (by first | exact tw_o | exact tw_c | exact tw_i | exact tw_p | exact tw_d) rfl ?_
    refine j_iload_n dX4_looksOf_22 rfl rfl ?_
    refine j_iald dX4_looksOf_23 (by first | exact tw_o | exact tw_c | exact tw_i | exact tw_p | exact tw_d) rfl (by omega) (by decide) ?_
    exact j_iret rfl dX4_looksOf_24 (by simp only [lks, shd, dsum]; first | rw [if_pos b7] | rw [if_neg b7]) rfl (Nat.le_of_ble_eq_true rfl) (Nat.le_of_ble_eq_true rfl)
  · refine j_aload_n dX4_looksOf_10 rfl rfl ?_
    refine j_iload_n dX4_looksOf_11 rfl rfl ?_
    refine j_callV (c_shadeOf G z σ t ca inc pa de ra qu hi fa hN hp hu hu2) dX4_looksOf_12 rfl mv_X4_62 (by first | exact tw_o | exact tw_c | exact tw_i | exact tw_p | exact tw_d) rfl ⟨(Nat.le_of_ble_eq_true rfl), (Nat.le_of_ble_eq_true rfl)⟩ ⟨(Nat.le_of_ble_eq_true rfl), (Nat.le_of_ble_eq_true rfl)⟩ (Nat.le_of_ble_eq_true rfl) ?_
    refine j_goto 24 dX4_looksOf_15 (by decide) ?_
    exact j_iret rfl dX4_looksOf_24 (by simp only [lks, shd, dsum]; first | rw [if_pos b7] | rw [if_neg b7]) rfl (Nat.le_of_ble_eq_true rfl) (Nat.le_of_ble_eq_true rfl)
theorem c_cashOfAll {N : Nat} (hN : N ≤ 7) : Ct G yX4_cashOfAll cX4_cashOfAll 3 (some .int) 1 0 0 z (tw σ t ca inc pa de (nI N) un ra qu hi fa) [.ref t] (some (.int (sumR ca N))) z (tw σ t ca inc pa de (nI N) un ra qu hi fa) := by
  refine Ct.ofJ RX4 rfl [some (.ref t), none, none] rfl (by decide) (by simp [Value.category]) ?_
  refine j_iconst (nI 0) dX4_cashOfAll_0 rfl ?_
  refine j_istore_n dX4_cashOfAll_1 rfl (Nat.le_of_ble_eq_true rfl) rfl ?_
  refine j_iconst (nI 0) dX4_cashOfAll_2 rfl ?_
  refine j_istore_n dX4_cashOfAll_3 rfl (Nat.le_of_ble_eq_true rfl) rfl ?_
  suffices H : ∀ k i, i ≤ N → N < i + k → J G RX4 cX4_cashOfAll 3 (some .int) (TQ G 1 0 0 (some (.int (sumR ca N))) z (tw σ t ca inc pa de (nI N) un ra qu hi fa)) z (tw σ t ca inc pa de (nI N) un ra qu hi fa) 0 0 4 [some (.ref t), some (.int (sumR ca i)), some (.int (nI i))] [] from H (N + 1) 0 (by omega) (by omega)
  intro k
  induction k with
  | zero => intro i h1 h2; exact absurd h2 (by omega)
  | succ k ih =>
    intro i h1 h2
    refine j_iload_n dX4_cashOfAll_4 rfl rfl ?_
    refine j_aload_n dX4_cashOfAll_5 rfl rfl ?_
    refine j_getf dX4_cashOfAll_6 4 4 rfl (Nat.le_of_ble_eq_true rfl) fl_X4_34 in_4 (by first | exact tw_o | exact tw_c | exact tw_i | exact tw_p | exact tw_d) rfl ?_
    refine j_icmp_geN 27 dX4_cashOfAll_9 (by decide) (by omega) (by omega) (fun b9 => ?_) (fun b9 => ?_)
    · obtain rfl : i = N := by omega
      refine j_iload_n dX4_cashOfAll_27 rfl rfl ?_
      exact j_iret rfl dX4_cashOfAll_28 rfl rfl (Nat.le_of_ble_eq_true rfl) (Nat.le_of_ble_eq_true rfl)
    · refine j_iload_n dX4_cashOfAll_12 rfl rfl ?_
      refine j_aload_n dX4_cashOfAll_13 rfl rfl ?_
      refine j_getf dX4_cashOfAll_14 4 0 rfl (Nat.le_of_ble_eq_true rfl) fl_X4_9 in_4 (by first | exact tw_o | exact tw_c | exact tw_i | exact tw_p | exact tw_d) rfl ?_
      refine j_iload_n dX4_cashOfAll_17 rfl rfl ?_
      refine j_iald dX4_cashOfAll_18 (by first | exact tw_o | exact tw_c | exact tw_i | exact tw_p | exact tw_d) rfl (by omega) (by decide) ?_
      first | refine j_iaddN dX4_cashOfAll_19 ?_ | refine j_iadd dX4_cashOfAll_19 ?_
      refine j_istore_n dX4_cashOfAll_20 rfl (Nat.le_of_ble_eq_true rfl) rfl ?_
      first | refine j_iincN dX4_cashOfAll_21 rfl (Nat.le_of_ble_eq_true rfl) rfl ?_ | refine j_iinc _ dX4_cashOfAll_21 rfl rfl (Nat.le_of_ble_eq_true rfl) rfl ?_
      refine j_goto 4 dX4_cashOfAll_24 (by decide) ?_
      exact ih (i + 1) (by omega) (by omega)
theorem c_kindOf {N p u : Nat} (hN : N ≤ 7) (hp : p < 7) (hu : 1 ≤ u) (hu2 : u ≤ 20) : Ct G yX4_kindOf cX4_kindOf 2 (some .int) 4 0 0 z (tw σ t ca inc pa de (nI N) (nI u) ra qu hi fa) [.ref t, .int (nI p)] (some (.int (kindI de fa N u p))) z (tw σ t ca inc pa de (nI N) (nI u) ra qu hi fa) := by
  refine Ct.ofJ RX4 rfl [some (.ref t), some (.int (nI p))] rfl (by decide) Nat.le.refl ?_
  refine j_aload_n dX4_kindOf_0 rfl rfl ?_
  refine j_getf dX4_kindOf_1 4 9 rfl (Nat.le_of_ble_eq_true rfl) fl_X4_46 in_4 (by first | exact tw_o | exact tw_c | exact tw_i | exact tw_p | exact tw_d) rfl ?_
  refine j_iload_n dX4_kindOf_4 rfl rfl ?_
  refine j_bitOf rfl (c_bitOf G z _ fa (nI p)) dX4_kindOf_5 rfl mn_bitOf ⟨(Nat.le_of_ble_eq_true rfl), (Nat.le_of_ble_eq_true rfl)⟩ ⟨(Nat.le_of_ble_eq_true rfl), (Nat.le_of_ble_eq_true rfl)⟩ (Nat.le_of_ble_eq_true rfl) ?_
  refine j_iconst (nI 1) dX4_kindOf_8 rfl ?_
  refine j_icmp_ne 14 dX4_kindOf_9 (by decide) (fun b9 => ?_) (fun b9 => ?_)
  · refine j_aload_n dX4_kindOf_14 rfl rfl ?_
    refine j_iload_n dX4_kindOf_15 rfl rfl ?_
    refine j_callV (c_owedBy G z σ t ca inc pa de (nI u) ra qu hi fa hN hp) dX4_kindOf_16 rfl mv_X4_53 (by first | exact tw_o | exact tw_c | exact tw_i | exact tw_p | exact tw_d) rfl ⟨(Nat.le_of_ble_eq_true rfl), (Nat.le_of_ble_eq_true rfl)⟩ ⟨(Nat.le_of_ble_eq_true rfl), (Nat.le_of_ble_eq_true rfl)⟩ (Nat.le_of_ble_eq_true rfl) ?_
    refine j_if_le 38 dX4_kindOf_19 (by decide) (fun b19 => ?_) (fun b19 => ?_)
    · refine j_aload_n dX4_kindOf_38 rfl rfl ?_
      refine j_iload_n dX4_kindOf_39 rfl rfl ?_
      refine j_callV (c_owedTo G z σ t ca inc pa de (nI u) ra qu hi fa hN hp) dX4_kindOf_40 rfl mv_X4_68 (by first | exact tw_o | exact tw_c | exact tw_i | exact tw_p | exact tw_d) rfl ⟨(Nat.le_of_ble_eq_true rfl), (Nat.le_of_ble_eq_true rfl)⟩ ⟨(Nat.le_of_ble_eq_true rfl), (Nat.le_of_ble_eq_true rfl)⟩ (Nat.le_of_ble_eq_true rfl) ?_
      refine j_if_le 50 dX4_kindOf_43 (by decide) (fun b43 => ?_) (fun b43 => ?_)
      · refine j_iconst (nI 4) dX4_kindOf_50 rfl ?_
        exact j_iret rfl dX4_kindOf_51 (by unfold kindI; rw [if_neg (show ¬ bitI fa (nI p) = nI 1 from b9), if_neg (show ¬ 0 < dsum de N p from Int32.not_lt.mpr b19)]; first | rw [if_pos (show 0 < tsum de N p from Int32.not_le.mp b43)] | rw [if_neg (show ¬ 0 < tsum de N p from Int32.not_lt.mpr b43)]) rfl (Nat.le_of_ble_eq_true rfl) (Nat.le_of_ble_eq_true rfl)
      · refine j_iconst (nI 5) dX4_kindOf_46 rfl ?_
        refine j_goto 51 dX4_kindOf_47 (by decide) ?_
        exact j_iret rfl dX4_kindOf_51 (by unfold kindI; rw [if_neg (show ¬ bitI fa (nI p) = nI 1 from b9), if_neg (show ¬ 0 < dsum de N p from Int32.not_lt.mpr b19)]; first | rw [if_pos (show 0 < tsum de N p from Int32.not_le.mp b43)] | rw [if_neg (show ¬ 0 < tsum de N p from Int32.not_lt.mpr b43)]) rfl (Nat.le_of_ble_eq_true rfl) (Nat.le_of_ble_eq_true rfl)
    · refine j_aload_n dX4_kindOf_22 rfl rfl ?_
      refine j_iload_n dX4_kindOf_23 rfl rfl ?_
      refine j_callV (c_shadeOf G z σ t ca inc pa de ra qu hi fa hN hp hu hu2) dX4_kindOf_24 rfl mv_X4_62 (by first | exact tw_o | exact tw_c | exact tw_i | exact tw_p | exact tw_d) rfl ⟨(Nat.le_of_ble_eq_true rfl), (Nat.le_of_ble_eq_true rfl)⟩ ⟨(Nat.le_of_ble_eq_true rfl), (Nat.le_of_ble_eq_true rfl)⟩ (Nat.le_of_ble_eq_true rfl) ?_
      refine j_bipush (nI 7) dX4_kindOf_27 rfl ?_
      refine j_icmp_lt 36 dX4_kindOf_29 (by decide) (fun b29 => ?_) (fun b29 => ?_)
      · refine j_iconst (nI 1) dX4_kindOf_36 rfl ?_
        exact j_iret rfl dX4_kindOf_37 (by unfold kindI; rw [if_neg (show ¬ bitI fa (nI p) = nI 1 from b9), if_pos (show 0 < dsum de N p from Int32.not_le.mp b19)]; first | rw [if_pos (show shd de N u p < nI 7 from b29)] | rw [if_neg (show ¬ shd de N u p < nI 7 from b29)]) rfl (Nat.le_of_ble_eq_true rfl) (Nat.le_of_ble_eq_true rfl)
      · refine j_iconst (nI 2) dX4_kindOf_32 rfl ?_
        refine j_goto 37 dX4_kindOf_33 (by decide) ?_
        exact j_iret rfl dX4_kindOf_37 (by unfold kindI; rw [if_neg (show ¬ bitI fa (nI p) = nI 1 from b9), if_pos (show 0 < dsum de N p from Int32.not_le.mp b19)]; first | rw [if_pos (show shd de N u p < nI 7 from b29)] | rw [if_neg (show ¬ shd de N u p < nI 7 from b29)]) rfl (Nat.le_of_ble_eq_true rfl) (Nat.le_of_ble_eq_true rfl)
  · refine j_iconst (nI 3) dX4_kindOf_12 rfl ?_
    exact j_iret rfl dX4_kindOf_13 (by unfold kindI; rw [if_pos (show bitI fa (nI p) = nI 1 from b9)]) rfl (Nat.le_of_ble_eq_true rfl) (Nat.le_of_ble_eq_true rfl)
end T2


/-! THE CLASS's calls: needs, clear, coin, hiding, run, feed -/
theorem ups_self {σ : AH} {a : Nat} {e : AE} (h : σ a = some e) : ups σ a e = σ := by
  funext k
  unfold ups
  by_cases hk : k = a
  · subst hk; rw [if_pos rfl, h]
  · rw [if_neg hk]
def insL (v : Int32) : Nat → (Nat → Int32) → (Nat → Int32) × Nat
  | 0, ne => (ne, 0)
  | a + 1, ne => if ne a ≤ v then (ne, a + 1) else insL v a (upd ne (a + 1) (ne a))
def needI (de : Nat → Int32) (N u p : Nat) : Int32 := dsum de N p - (shd de N u p * nI u - nI 1)
def gat (de : Nat → Int32) (N u : Nat) (ne : Nat → Int32) : Nat → (Nat → Int32) × Nat
  | 0 => (ne, 0)
  | p + 1 => if shd de N u p < nI 1 then gat de N u ne p else (upd (insL (needI de N u p) (gat de N u ne p).2 (gat de N u ne p).1).1 (insL (needI de N u p) (gat de N u ne p).2 (gat de N u ne p).1).2 (needI de N u p), (gat de N u ne p).2 + 1)
theorem gat_le (de : Nat → Int32) (N u : Nat) (ne : Nat → Int32) : ∀ p, (gat de N u ne p).2 ≤ p
  | 0 => Nat.le_refl 0
  | p + 1 => by
    have h := gat_le de N u ne p
    unfold gat
    split
    · omega
    · show _ + 1 ≤ p + 1; omega
theorem insL_le (v : Int32) : ∀ (a : Nat) (ne : Nat → Int32), (insL v a ne).2 ≤ a
  | 0, ne => Nat.le_refl 0
  | a + 1, ne => by
    unfold insL
    split
    · exact Nat.le_refl _
    · exact Nat.le_succ_of_le (insL_le v a _)
def fstN (P : Nat → Bool) : Nat → Nat → Nat
  | 0, k => k
  | n + 1, k => if P k = true then k else fstN P n (k + 1)
def lft (c : Int32) (ne : Nat → Int32) : Nat → Int32
  | 0 => c
  | k + 1 => lft c ne k - ne k
def plI (de de2 : Nat → Int32) (N u : Nat) : Nat → Int32
  | 0 => nI 0
  | p + 1 => if shd de N u p ≤ shd de2 N u p then plI de de2 N u p else orI (plI de de2 N u p) p
/-- a run: cash, debts, CALLED, new, owing, rounds -/
def rnL (N : Nat) : Nat → (Nat → Int32) → (Nat → Int32) → Int32 → Int32 → Int32 → Nat → (Nat → Int32) × (Nat → Int32) × Int32 × Int32 × Nat
  | 0, ca, de, cl, _, ow, r => (ca, de, cl, ow, r)
  | f + 1, ca, de, cl, nw, ow, r => if nw = 0 then (ca, de, cl, ow, r) else if 7 < r then (ca, de, cl, ow, r) else
      rnL N f (stA N cl ca de N).1 (stA N cl ca de N).2.1 (cl ||| (lendA (stA N cl ca de N).2.1 (stA N cl ca de N).2.2 N N &&& (cl ^^^ (-1)))) (lendA (stA N cl ca de N).2.1 (stA N cl ca de N).2.2 N N &&& (cl ^^^ (-1))) (stA N cl ca de N).2.2 (r + 1)
theorem dX5_gatherNeeds_0 : decode cX5_gatherNeeds 0 = .ok (.iconst 0, 1) := by decide +kernel
theorem dX5_gatherNeeds_1 : decode cX5_gatherNeeds 1 = .ok (.istore_n 1, 1) := by decide +kernel
theorem dX5_gatherNeeds_2 : decode cX5_gatherNeeds 2 = .ok (.iconst 0, 1) := by decide +kernel
theorem dX5_gatherNeeds_3 : decode cX5_gatherNeeds 3 = .ok (.istore_n 2, 1) := by decide +kernel
theorem dX5_gatherNeeds_4 : decode cX5_gatherNeeds 4 = .ok (.iload_n 2, 1) := by decide +kernel
theorem dX5_gatherNeeds_5 : decode cX5_gatherNeeds 5 = .ok (.aload_n 0, 1) := by decide +kernel
theorem dX5_gatherNeeds_6 : decode cX5_gatherNeeds 6 = .ok (.getfield 26, 3) := by decide +kernel
theorem dX5_gatherNeeds_9 : decode cX5_gatherNeeds 9 = .ok (.getfield 131, 3) := by decide +kernel
theorem dX5_gatherNeeds_12 : decode cX5_gatherNeeds 12 = .ok (.if_icmp .ge 101, 3) := by decide +kernel
theorem dX5_gatherNeeds_15 : decode cX5_gatherNeeds 15 = .ok (.aload_n 0, 1) := by decide +kernel
theorem dX5_gatherNeeds_16 : decode cX5_gatherNeeds 16 = .ok (.getfield 26, 3) := by decide +kernel
theorem dX5_gatherNeeds_19 : decode cX5_gatherNeeds 19 = .ok (.iload_n 2, 1) := by decide +kernel
theorem dX5_gatherNeeds_20 : decode cX5_gatherNeeds 20 = .ok (.invokevirtual 193, 3) := by decide +kernel
theorem dX5_gatherNeeds_23 : decode cX5_gatherNeeds 23 = .ok (.istore_n 3, 1) := by decide +kernel
theorem dX5_gatherNeeds_24 : decode cX5_gatherNeeds 24 = .ok (.iload_n 3, 1) := by decide +kernel
theorem dX5_gatherNeeds_25 : decode cX5_gatherNeeds 25 = .ok (.iconst 1, 1) := by decide +kernel
theorem dX5_gatherNeeds_26 : decode cX5_gatherNeeds 26 = .ok (.if_icmp .lt 81, 3) := by decide +kernel
theorem dX5_gatherNeeds_29 : decode cX5_gatherNeeds 29 = .ok (.aload_n 0, 1) := by decide +kernel
theorem dX5_gatherNeeds_30 : decode cX5_gatherNeeds 30 = .ok (.getfield 26, 3) := by decide +kernel
theorem dX5_gatherNeeds_33 : decode cX5_gatherNeeds 33 = .ok (.iload_n 2, 1) := by decide +kernel
theorem dX5_gatherNeeds_34 : decode cX5_gatherNeeds 34 = .ok (.invokevirtual 190, 3) := by decide +kernel
theorem dX5_gatherNeeds_37 : decode cX5_gatherNeeds 37 = .ok (.iload_n 3, 1) := by decide +kernel
theorem dX5_gatherNeeds_38 : decode cX5_gatherNeeds 38 = .ok (.aload_n 0, 1) := by decide +kernel
theorem dX5_gatherNeeds_39 : decode cX5_gatherNeeds 39 = .ok (.getfield 26, 3) := by decide +kernel
theorem dX5_gatherNeeds_42 : decode cX5_gatherNeeds 42 = .ok (.getfield 262, 3) := by decide +kernel
theorem dX5_gatherNeeds_45 : decode cX5_gatherNeeds 45 = .ok (.imul, 1) := by decide +kernel
theorem dX5_gatherNeeds_46 : decode cX5_gatherNeeds 46 = .ok (.iconst 1, 1) := by decide +kernel
theorem dX5_gatherNeeds_47 : decode cX5_gatherNeeds 47 = .ok (.isub, 1) := by decide +kernel
theorem dX5_gatherNeeds_48 : decode cX5_gatherNeeds 48 = .ok (.isub, 1) := by decide +kernel
theorem dX5_gatherNeeds_49 : decode cX5_gatherNeeds 49 = .ok (.istore 4, 2) := by decide +kernel
theorem dX5_gatherNeeds_51 : decode cX5_gatherNeeds 51 = .ok (.iload_n 1, 1) := by decide +kernel
theorem dX5_gatherNeeds_52 : decode cX5_gatherNeeds 52 = .ok (.istore 5, 2) := by decide +kernel
theorem dX5_gatherNeeds_54 : decode cX5_gatherNeeds 54 = .ok (.iload 5, 2) := by decide +kernel
theorem dX5_gatherNeeds_56 : decode cX5_gatherNeeds 56 = .ok (.ifCond .le 39, 3) := by decide +kernel
theorem dX5_gatherNeeds_59 : decode cX5_gatherNeeds 59 = .ok (.aload_n 0, 1) := by decide +kernel
theorem dX5_gatherNeeds_60 : decode cX5_gatherNeeds 60 = .ok (.getfield 51, 3) := by decide +kernel
theorem dX5_gatherNeeds_63 : decode cX5_gatherNeeds 63 = .ok (.iload 5, 2) := by decide +kernel
theorem dX5_gatherNeeds_65 : decode cX5_gatherNeeds 65 = .ok (.iconst 1, 1) := by decide +kernel
theorem dX5_gatherNeeds_66 : decode cX5_gatherNeeds 66 = .ok (.isub, 1) := by decide +kernel
theorem dX5_gatherNeeds_67 : decode cX5_gatherNeeds 67 = .ok (.iaload, 1) := by decide +kernel
theorem dX5_gatherNeeds_68 : decode cX5_gatherNeeds 68 = .ok (.iload 4, 2) := by decide +kernel
theorem dX5_gatherNeeds_70 : decode cX5_gatherNeeds 70 = .ok (.if_icmp .le 25, 3) := by decide +kernel
theorem dX5_gatherNeeds_73 : decode cX5_gatherNeeds 73 = .ok (.aload_n 0, 1) := by decide +kernel
theorem dX5_gatherNeeds_74 : decode cX5_gatherNeeds 74 = .ok (.getfield 51, 3) := by decide +kernel
theorem dX5_gatherNeeds_77 : decode cX5_gatherNeeds 77 = .ok (.iload 5, 2) := by decide +kernel
theorem dX5_gatherNeeds_79 : decode cX5_gatherNeeds 79 = .ok (.aload_n 0, 1) := by decide +kernel
theorem dX5_gatherNeeds_80 : decode cX5_gatherNeeds 80 = .ok (.getfield 51, 3) := by decide +kernel
theorem dX5_gatherNeeds_83 : decode cX5_gatherNeeds 83 = .ok (.iload 5, 2) := by decide +kernel
theorem dX5_gatherNeeds_85 : decode cX5_gatherNeeds 85 = .ok (.iconst 1, 1) := by decide +kernel
theorem dX5_gatherNeeds_86 : decode cX5_gatherNeeds 86 = .ok (.isub, 1) := by decide +kernel
theorem dX5_gatherNeeds_87 : decode cX5_gatherNeeds 87 = .ok (.iaload, 1) := by decide +kernel
theorem dX5_gatherNeeds_88 : decode cX5_gatherNeeds 88 = .ok (.iastore, 1) := by decide +kernel
theorem dX5_gatherNeeds_89 : decode cX5_gatherNeeds 89 = .ok (.iinc 5 (-1), 3) := by decide +kernel
theorem dX5_gatherNeeds_92 : decode cX5_gatherNeeds 92 = .ok (.goto (-38), 3) := by decide +kernel
theorem dX5_gatherNeeds_95 : decode cX5_gatherNeeds 95 = .ok (.aload_n 0, 1) := by decide +kernel
theorem dX5_gatherNeeds_96 : decode cX5_gatherNeeds 96 = .ok (.getfield 51, 3) := by decide +kernel
theorem dX5_gatherNeeds_99 : decode cX5_gatherNeeds 99 = .ok (.iload 5, 2) := by decide +kernel
theorem dX5_gatherNeeds_101 : decode cX5_gatherNeeds 101 = .ok (.iload 4, 2) := by decide +kernel
theorem dX5_gatherNeeds_103 : decode cX5_gatherNeeds 103 = .ok (.iastore, 1) := by decide +kernel
theorem dX5_gatherNeeds_104 : decode cX5_gatherNeeds 104 = .ok (.iinc 1 1, 3) := by decide +kernel
theorem dX5_gatherNeeds_107 : decode cX5_gatherNeeds 107 = .ok (.iinc 2 1, 3) := by decide +kernel
theorem dX5_gatherNeeds_110 : decode cX5_gatherNeeds 110 = .ok (.goto (-106), 3) := by decide +kernel
theorem dX5_gatherNeeds_113 : decode cX5_gatherNeeds 113 = .ok (.iload_n 1, 1) := by decide +kernel
theorem dX5_gatherNeeds_114 : decode cX5_gatherNeeds 114 = .ok (.ireturn, 1) := by decide +kernel
theorem dX5_clear_0 : decode cX5_clear 0 = .ok (.aload_n 0, 1) := by decide +kernel
theorem dX5_clear_1 : decode cX5_clear 1 = .ok (.invokevirtual 170, 3) := by decide +kernel
theorem dX5_clear_4 : decode cX5_clear 4 = .ok (.ifCond .eq 6, 3) := by decide +kernel
theorem dX5_clear_7 : decode cX5_clear 7 = .ok (.ldc 140, 2) := by decide +kernel
theorem dX5_clear_9 : decode cX5_clear 9 = .ok (.ireturn, 1) := by decide +kernel
theorem dX5_clear_10 : decode cX5_clear 10 = .ok (.iload_n 1, 1) := by decide +kernel
theorem dX5_clear_11 : decode cX5_clear 11 = .ok (.ifCond .lt 9, 3) := by decide +kernel
theorem dX5_clear_14 : decode cX5_clear 14 = .ok (.iload_n 1, 1) := by decide +kernel
theorem dX5_clear_15 : decode cX5_clear 15 = .ok (.ldc 173, 2) := by decide +kernel
theorem dX5_clear_17 : decode cX5_clear 17 = .ok (.if_icmp .le 6, 3) := by decide +kernel
theorem dX5_clear_20 : decode cX5_clear 20 = .ok (.ldc 59, 2) := by decide +kernel
theorem dX5_clear_22 : decode cX5_clear 22 = .ok (.ireturn, 1) := by decide +kernel
theorem dX5_clear_23 : decode cX5_clear 23 = .ok (.aload_n 0, 1) := by decide +kernel
theorem dX5_clear_24 : decode cX5_clear 24 = .ok (.invokevirtual 217, 3) := by decide +kernel
theorem dX5_clear_27 : decode cX5_clear 27 = .ok (.istore_n 2, 1) := by decide +kernel
theorem dX5_clear_28 : decode cX5_clear 28 = .ok (.iload_n 1, 1) := by decide +kernel
theorem dX5_clear_29 : decode cX5_clear 29 = .ok (.istore_n 3, 1) := by decide +kernel
theorem dX5_clear_30 : decode cX5_clear 30 = .ok (.iconst 0, 1) := by decide +kernel
theorem dX5_clear_31 : decode cX5_clear 31 = .ok (.istore 4, 2) := by decide +kernel
theorem dX5_clear_33 : decode cX5_clear 33 = .ok (.iload 4, 2) := by decide +kernel
theorem dX5_clear_35 : decode cX5_clear 35 = .ok (.iload_n 2, 1) := by decide +kernel
theorem dX5_clear_36 : decode cX5_clear 36 = .ok (.if_icmp .ge 33, 3) := by decide +kernel
theorem dX5_clear_39 : decode cX5_clear 39 = .ok (.aload_n 0, 1) := by decide +kernel
theorem dX5_clear_40 : decode cX5_clear 40 = .ok (.getfield 51, 3) := by decide +kernel
theorem dX5_clear_43 : decode cX5_clear 43 = .ok (.iload 4, 2) := by decide +kernel
theorem dX5_clear_45 : decode cX5_clear 45 = .ok (.iaload, 1) := by decide +kernel
theorem dX5_clear_46 : decode cX5_clear 46 = .ok (.iload_n 3, 1) := by decide +kernel
theorem dX5_clear_47 : decode cX5_clear 47 = .ok (.if_icmp .le 6, 3) := by decide +kernel
theorem dX5_clear_50 : decode cX5_clear 50 = .ok (.iload 4, 2) := by decide +kernel
theorem dX5_clear_52 : decode cX5_clear 52 = .ok (.ireturn, 1) := by decide +kernel
theorem dX5_clear_53 : decode cX5_clear 53 = .ok (.iload_n 3, 1) := by decide +kernel
theorem dX5_clear_54 : decode cX5_clear 54 = .ok (.aload_n 0, 1) := by decide +kernel
theorem dX5_clear_55 : decode cX5_clear 55 = .ok (.getfield 51, 3) := by decide +kernel
theorem dX5_clear_58 : decode cX5_clear 58 = .ok (.iload 4, 2) := by decide +kernel
theorem dX5_clear_60 : decode cX5_clear 60 = .ok (.iaload, 1) := by decide +kernel
theorem dX5_clear_61 : decode cX5_clear 61 = .ok (.isub, 1) := by decide +kernel
theorem dX5_clear_62 : decode cX5_clear 62 = .ok (.istore_n 3, 1) := by decide +kernel
theorem dX5_clear_63 : decode cX5_clear 63 = .ok (.iinc 4 1, 3) := by decide +kernel
theorem dX5_clear_66 : decode cX5_clear 66 = .ok (.goto (-33), 3) := by decide +kernel
theorem dX5_clear_69 : decode cX5_clear 69 = .ok (.iload_n 2, 1) := by decide +kernel
theorem dX5_clear_70 : decode cX5_clear 70 = .ok (.ireturn, 1) := by decide +kernel
theorem dX5_coin_0 : decode cX5_coin 0 = .ok (.aload_n 0, 1) := by decide +kernel
theorem dX5_coin_1 : decode cX5_coin 1 = .ok (.invokevirtual 170, 3) := by decide +kernel
theorem dX5_coin_4 : decode cX5_coin 4 = .ok (.ifCond .eq 6, 3) := by decide +kernel
theorem dX5_coin_7 : decode cX5_coin 7 = .ok (.ldc 140, 2) := by decide +kernel
theorem dX5_coin_9 : decode cX5_coin 9 = .ok (.ireturn, 1) := by decide +kernel
theorem dX5_coin_10 : decode cX5_coin 10 = .ok (.iload_n 1, 1) := by decide +kernel
theorem dX5_coin_11 : decode cX5_coin 11 = .ok (.ifCond .lt 9, 3) := by decide +kernel
theorem dX5_coin_14 : decode cX5_coin 14 = .ok (.iload_n 1, 1) := by decide +kernel
theorem dX5_coin_15 : decode cX5_coin 15 = .ok (.bipush 7, 2) := by decide +kernel
theorem dX5_coin_17 : decode cX5_coin 17 = .ok (.if_icmp .le 6, 3) := by decide +kernel
theorem dX5_coin_20 : decode cX5_coin 20 = .ok (.ldc 59, 2) := by decide +kernel
theorem dX5_coin_22 : decode cX5_coin 22 = .ok (.ireturn, 1) := by decide +kernel
theorem dX5_coin_23 : decode cX5_coin 23 = .ok (.iload_n 1, 1) := by decide +kernel
theorem dX5_coin_24 : decode cX5_coin 24 = .ok (.aload_n 0, 1) := by decide +kernel
theorem dX5_coin_25 : decode cX5_coin 25 = .ok (.invokevirtual 217, 3) := by decide +kernel
theorem dX5_coin_28 : decode cX5_coin 28 = .ok (.if_icmp .le 6, 3) := by decide +kernel
theorem dX5_coin_31 : decode cX5_coin 31 = .ok (.ldc 220, 2) := by decide +kernel
theorem dX5_coin_33 : decode cX5_coin 33 = .ok (.ireturn, 1) := by decide +kernel
theorem dX5_coin_34 : decode cX5_coin 34 = .ok (.iconst 0, 1) := by decide +kernel
theorem dX5_coin_35 : decode cX5_coin 35 = .ok (.istore_n 2, 1) := by decide +kernel
theorem dX5_coin_36 : decode cX5_coin 36 = .ok (.iconst 0, 1) := by decide +kernel
theorem dX5_coin_37 : decode cX5_coin 37 = .ok (.istore_n 3, 1) := by decide +kernel
theorem dX5_coin_38 : decode cX5_coin 38 = .ok (.iload_n 3, 1) := by decide +kernel
theorem dX5_coin_39 : decode cX5_coin 39 = .ok (.iload_n 1, 1) := by decide +kernel
theorem dX5_coin_40 : decode cX5_coin 40 = .ok (.if_icmp .ge 18, 3) := by decide +kernel
theorem dX5_coin_43 : decode cX5_coin 43 = .ok (.iload_n 2, 1) := by decide +kernel
theorem dX5_coin_44 : decode cX5_coin 44 = .ok (.aload_n 0, 1) := by decide +kernel
theorem dX5_coin_45 : decode cX5_coin 45 = .ok (.getfield 51, 3) := by decide +kernel
theorem dX5_coin_48 : decode cX5_coin 48 = .ok (.iload_n 3, 1) := by decide +kernel
theorem dX5_coin_49 : decode cX5_coin 49 = .ok (.iaload, 1) := by decide +kernel
theorem dX5_coin_50 : decode cX5_coin 50 = .ok (.iadd, 1) := by decide +kernel
theorem dX5_coin_51 : decode cX5_coin 51 = .ok (.istore_n 2, 1) := by decide +kernel
theorem dX5_coin_52 : decode cX5_coin 52 = .ok (.iinc 3 1, 3) := by decide +kernel
theorem dX5_coin_55 : decode cX5_coin 55 = .ok (.goto (-17), 3) := by decide +kernel
theorem dX5_coin_58 : decode cX5_coin 58 = .ok (.iload_n 2, 1) := by decide +kernel
theorem dX5_coin_59 : decode cX5_coin 59 = .ok (.ireturn, 1) := by decide +kernel
theorem dX5_hiding_0 : decode cX5_hiding 0 = .ok (.aload_n 0, 1) := by decide +kernel
theorem dX5_hiding_1 : decode cX5_hiding 1 = .ok (.invokevirtual 170, 3) := by decide +kernel
theorem dX5_hiding_4 : decode cX5_hiding 4 = .ok (.ifCond .eq 6, 3) := by decide +kernel
theorem dX5_hiding_7 : decode cX5_hiding 7 = .ok (.ldc 140, 2) := by decide +kernel
theorem dX5_hiding_9 : decode cX5_hiding 9 = .ok (.ireturn, 1) := by decide +kernel
theorem dX5_hiding_10 : decode cX5_hiding 10 = .ok (.iload_n 1, 1) := by decide +kernel
theorem dX5_hiding_11 : decode cX5_hiding 11 = .ok (.ifCond .lt 8, 3) := by decide +kernel
theorem dX5_hiding_14 : decode cX5_hiding 14 = .ok (.iload_n 1, 1) := by decide +kernel
theorem dX5_hiding_15 : decode cX5_hiding 15 = .ok (.iconst 1, 1) := by decide +kernel
theorem dX5_hiding_16 : decode cX5_hiding 16 = .ok (.if_icmp .le 6, 3) := by decide +kernel
theorem dX5_hiding_19 : decode cX5_hiding 19 = .ok (.ldc 59, 2) := by decide +kernel
theorem dX5_hiding_21 : decode cX5_hiding 21 = .ok (.ireturn, 1) := by decide +kernel
theorem dX5_hiding_22 : decode cX5_hiding 22 = .ok (.aload_n 0, 1) := by decide +kernel
theorem dX5_hiding_23 : decode cX5_hiding 23 = .ok (.getfield 30, 3) := by decide +kernel
theorem dX5_hiding_26 : decode cX5_hiding 26 = .ok (.aload_n 0, 1) := by decide +kernel
theorem dX5_hiding_27 : decode cX5_hiding 27 = .ok (.getfield 26, 3) := by decide +kernel
theorem dX5_hiding_30 : decode cX5_hiding 30 = .ok (.invokevirtual 124, 3) := by decide +kernel
theorem dX5_hiding_33 : decode cX5_hiding 33 = .ok (.aload_n 0, 1) := by decide +kernel
theorem dX5_hiding_34 : decode cX5_hiding 34 = .ok (.getfield 30, 3) := by decide +kernel
theorem dX5_hiding_37 : decode cX5_hiding 37 = .ok (.invokevirtual 210, 3) := by decide +kernel
theorem dX5_hiding_40 : decode cX5_hiding 40 = .ok (.istore_n 2, 1) := by decide +kernel
theorem dX5_hiding_41 : decode cX5_hiding 41 = .ok (.iload_n 1, 1) := by decide +kernel
theorem dX5_hiding_42 : decode cX5_hiding 42 = .ok (.iconst 1, 1) := by decide +kernel
theorem dX5_hiding_43 : decode cX5_hiding 43 = .ok (.if_icmp .ne 7, 3) := by decide +kernel
theorem dX5_hiding_46 : decode cX5_hiding 46 = .ok (.iload_n 2, 1) := by decide +kernel
theorem dX5_hiding_47 : decode cX5_hiding 47 = .ok (.goto 7, 3) := by decide +kernel
theorem dX5_hiding_50 : decode cX5_hiding 50 = .ok (.aload_n 0, 1) := by decide +kernel
theorem dX5_hiding_51 : decode cX5_hiding 51 = .ok (.invokevirtual 214, 3) := by decide +kernel
theorem dX5_hiding_54 : decode cX5_hiding 54 = .ok (.ireturn, 1) := by decide +kernel
theorem dX5_peopleForetoldPaler_0 : decode cX5_peopleForetoldPaler 0 = .ok (.iconst 0, 1) := by decide +kernel
theorem dX5_peopleForetoldPaler_1 : decode cX5_peopleForetoldPaler 1 = .ok (.istore_n 1, 1) := by decide +kernel
theorem dX5_peopleForetoldPaler_2 : decode cX5_peopleForetoldPaler 2 = .ok (.iconst 0, 1) := by decide +kernel
theorem dX5_peopleForetoldPaler_3 : decode cX5_peopleForetoldPaler 3 = .ok (.istore_n 2, 1) := by decide +kernel
theorem dX5_peopleForetoldPaler_4 : decode cX5_peopleForetoldPaler 4 = .ok (.iload_n 2, 1) := by decide +kernel
theorem dX5_peopleForetoldPaler_5 : decode cX5_peopleForetoldPaler 5 = .ok (.aload_n 0, 1) := by decide +kernel
theorem dX5_peopleForetoldPaler_6 : decode cX5_peopleForetoldPaler 6 = .ok (.getfield 26, 3) := by decide +kernel
theorem dX5_peopleForetoldPaler_9 : decode cX5_peopleForetoldPaler 9 = .ok (.getfield 131, 3) := by decide +kernel
theorem dX5_peopleForetoldPaler_12 : decode cX5_peopleForetoldPaler 12 = .ok (.if_icmp .ge 34, 3) := by decide +kernel
theorem dX5_peopleForetoldPaler_15 : decode cX5_peopleForetoldPaler 15 = .ok (.aload_n 0, 1) := by decide +kernel
theorem dX5_peopleForetoldPaler_16 : decode cX5_peopleForetoldPaler 16 = .ok (.getfield 30, 3) := by decide +kernel
theorem dX5_peopleForetoldPaler_19 : decode cX5_peopleForetoldPaler 19 = .ok (.iload_n 2, 1) := by decide +kernel
theorem dX5_peopleForetoldPaler_20 : decode cX5_peopleForetoldPaler 20 = .ok (.invokevirtual 193, 3) := by decide +kernel
theorem dX5_peopleForetoldPaler_23 : decode cX5_peopleForetoldPaler 23 = .ok (.aload_n 0, 1) := by decide +kernel
theorem dX5_peopleForetoldPaler_24 : decode cX5_peopleForetoldPaler 24 = .ok (.getfield 26, 3) := by decide +kernel
theorem dX5_peopleForetoldPaler_27 : decode cX5_peopleForetoldPaler 27 = .ok (.iload_n 2, 1) := by decide +kernel
theorem dX5_peopleForetoldPaler_28 : decode cX5_peopleForetoldPaler 28 = .ok (.invokevirtual 193, 3) := by decide +kernel
theorem dX5_peopleForetoldPaler_31 : decode cX5_peopleForetoldPaler 31 = .ok (.if_icmp .ge 9, 3) := by decide +kernel
theorem dX5_peopleForetoldPaler_34 : decode cX5_peopleForetoldPaler 34 = .ok (.iload_n 1, 1) := by decide +kernel
theorem dX5_peopleForetoldPaler_35 : decode cX5_peopleForetoldPaler 35 = .ok (.iconst 1, 1) := by decide +kernel
theorem dX5_peopleForetoldPaler_36 : decode cX5_peopleForetoldPaler 36 = .ok (.iload_n 2, 1) := by decide +kernel
theorem dX5_peopleForetoldPaler_37 : decode cX5_peopleForetoldPaler 37 = .ok (.ishl, 1) := by decide +kernel
theorem dX5_peopleForetoldPaler_38 : decode cX5_peopleForetoldPaler 38 = .ok (.ior, 1) := by decide +kernel
theorem dX5_peopleForetoldPaler_39 : decode cX5_peopleForetoldPaler 39 = .ok (.istore_n 1, 1) := by decide +kernel
theorem dX5_peopleForetoldPaler_40 : decode cX5_peopleForetoldPaler 40 = .ok (.iinc 2 1, 3) := by decide +kernel
theorem dX5_peopleForetoldPaler_43 : decode cX5_peopleForetoldPaler 43 = .ok (.goto (-39), 3) := by decide +kernel
theorem dX5_peopleForetoldPaler_46 : decode cX5_peopleForetoldPaler 46 = .ok (.iload_n 1, 1) := by decide +kernel
theorem dX5_peopleForetoldPaler_47 : decode cX5_peopleForetoldPaler 47 = .ok (.ireturn, 1) := by decide +kernel
theorem dX5_run_0 : decode cX5_run 0 = .ok (.aload_n 0, 1) := by decide +kernel
theorem dX5_run_1 : decode cX5_run 1 = .ok (.invokevirtual 170, 3) := by decide +kernel
theorem dX5_run_4 : decode cX5_run 4 = .ok (.ifCond .eq 6, 3) := by decide +kernel
theorem dX5_run_7 : decode cX5_run 7 = .ok (.ldc 140, 2) := by decide +kernel
theorem dX5_run_9 : decode cX5_run 9 = .ok (.ireturn, 1) := by decide +kernel
theorem dX5_run_10 : decode cX5_run 10 = .ok (.iload_n 1, 1) := by decide +kernel
theorem dX5_run_11 : decode cX5_run 11 = .ok (.iconst 1, 1) := by decide +kernel
theorem dX5_run_12 : decode cX5_run 12 = .ok (.if_icmp .lt 18, 3) := by decide +kernel
theorem dX5_run_15 : decode cX5_run 15 = .ok (.iload_n 1, 1) := by decide +kernel
theorem dX5_run_16 : decode cX5_run 16 = .ok (.bipush 9, 2) := by decide +kernel
theorem dX5_run_18 : decode cX5_run 18 = .ok (.if_icmp .gt 12, 3) := by decide +kernel
theorem dX5_run_21 : decode cX5_run 21 = .ok (.iload_n 2, 1) := by decide +kernel
theorem dX5_run_22 : decode cX5_run 22 = .ok (.ifCond .lt 8, 3) := by decide +kernel
theorem dX5_run_25 : decode cX5_run 25 = .ok (.iload_n 2, 1) := by decide +kernel
theorem dX5_run_26 : decode cX5_run 26 = .ok (.iconst 2, 1) := by decide +kernel
theorem dX5_run_27 : decode cX5_run 27 = .ok (.if_icmp .le 6, 3) := by decide +kernel
theorem dX5_run_30 : decode cX5_run 30 = .ok (.ldc 59, 2) := by decide +kernel
theorem dX5_run_32 : decode cX5_run 32 = .ok (.ireturn, 1) := by decide +kernel
theorem dX5_run_33 : decode cX5_run 33 = .ok (.aload_n 0, 1) := by decide +kernel
theorem dX5_run_34 : decode cX5_run 34 = .ok (.getfield 30, 3) := by decide +kernel
theorem dX5_run_37 : decode cX5_run 37 = .ok (.aload_n 0, 1) := by decide +kernel
theorem dX5_run_38 : decode cX5_run 38 = .ok (.getfield 26, 3) := by decide +kernel
theorem dX5_run_41 : decode cX5_run 41 = .ok (.invokevirtual 124, 3) := by decide +kernel
theorem dX5_run_44 : decode cX5_run 44 = .ok (.aload_n 0, 1) := by decide +kernel
theorem dX5_run_45 : decode cX5_run 45 = .ok (.getfield 26, 3) := by decide +kernel
theorem dX5_run_48 : decode cX5_run 48 = .ok (.iload_n 1, 1) := by decide +kernel
theorem dX5_run_49 : decode cX5_run 49 = .ok (.invokevirtual 221, 3) := by decide +kernel
theorem dX5_run_52 : decode cX5_run 52 = .ok (.istore_n 3, 1) := by decide +kernel
theorem dX5_run_53 : decode cX5_run 53 = .ok (.iload_n 3, 1) := by decide +kernel
theorem dX5_run_54 : decode cX5_run 54 = .ok (.istore 4, 2) := by decide +kernel
theorem dX5_run_56 : decode cX5_run 56 = .ok (.iconst 0, 1) := by decide +kernel
theorem dX5_run_57 : decode cX5_run 57 = .ok (.istore 5, 2) := by decide +kernel
theorem dX5_run_59 : decode cX5_run 59 = .ok (.iconst 0, 1) := by decide +kernel
theorem dX5_run_60 : decode cX5_run 60 = .ok (.istore 6, 2) := by decide +kernel
theorem dX5_run_62 : decode cX5_run 62 = .ok (.iload 4, 2) := by decide +kernel
theorem dX5_run_64 : decode cX5_run 64 = .ok (.ifCond .eq 46, 3) := by decide +kernel
theorem dX5_run_67 : decode cX5_run 67 = .ok (.iload 6, 2) := by decide +kernel
theorem dX5_run_69 : decode cX5_run 69 = .ok (.bipush 7, 2) := by decide +kernel
theorem dX5_run_71 : decode cX5_run 71 = .ok (.if_icmp .gt 39, 3) := by decide +kernel
theorem dX5_run_74 : decode cX5_run 74 = .ok (.iinc 6 1, 3) := by decide +kernel
theorem dX5_run_77 : decode cX5_run 77 = .ok (.aload_n 0, 1) := by decide +kernel
theorem dX5_run_78 : decode cX5_run 78 = .ok (.getfield 30, 3) := by decide +kernel
theorem dX5_run_81 : decode cX5_run 81 = .ok (.iload_n 3, 1) := by decide +kernel
theorem dX5_run_82 : decode cX5_run 82 = .ok (.invokevirtual 224, 3) := by decide +kernel
theorem dX5_run_85 : decode cX5_run 85 = .ok (.istore 5, 2) := by decide +kernel
theorem dX5_run_87 : decode cX5_run 87 = .ok (.aload_n 0, 1) := by decide +kernel
theorem dX5_run_88 : decode cX5_run 88 = .ok (.getfield 30, 3) := by decide +kernel
theorem dX5_run_91 : decode cX5_run 91 = .ok (.iload 5, 2) := by decide +kernel
theorem dX5_run_93 : decode cX5_run 93 = .ok (.invokevirtual 227, 3) := by decide +kernel
theorem dX5_run_96 : decode cX5_run 96 = .ok (.iload_n 3, 1) := by decide +kernel
theorem dX5_run_97 : decode cX5_run 97 = .ok (.iconst (-1), 1) := by decide +kernel
theorem dX5_run_98 : decode cX5_run 98 = .ok (.ixor, 1) := by decide +kernel
theorem dX5_run_99 : decode cX5_run 99 = .ok (.iand, 1) := by decide +kernel
theorem dX5_run_100 : decode cX5_run 100 = .ok (.istore 4, 2) := by decide +kernel
theorem dX5_run_102 : decode cX5_run 102 = .ok (.iload_n 3, 1) := by decide +kernel
theorem dX5_run_103 : decode cX5_run 103 = .ok (.iload 4, 2) := by decide +kernel
theorem dX5_run_105 : decode cX5_run 105 = .ok (.ior, 1) := by decide +kernel
theorem dX5_run_106 : decode cX5_run 106 = .ok (.istore_n 3, 1) := by decide +kernel
theorem dX5_run_107 : decode cX5_run 107 = .ok (.goto (-45), 3) := by decide +kernel
theorem dX5_run_110 : decode cX5_run 110 = .ok (.iload_n 2, 1) := by decide +kernel
theorem dX5_run_111 : decode cX5_run 111 = .ok (.ifCond .ne 6, 3) := by decide +kernel
theorem dX5_run_114 : decode cX5_run 114 = .ok (.iload 6, 2) := by decide +kernel
theorem dX5_run_116 : decode cX5_run 116 = .ok (.ireturn, 1) := by decide +kernel
theorem dX5_run_117 : decode cX5_run 117 = .ok (.iload_n 2, 1) := by decide +kernel
theorem dX5_run_118 : decode cX5_run 118 = .ok (.iconst 1, 1) := by decide +kernel
theorem dX5_run_119 : decode cX5_run 119 = .ok (.if_icmp .ne 8, 3) := by decide +kernel
theorem dX5_run_122 : decode cX5_run 122 = .ok (.iload 5, 2) := by decide +kernel
theorem dX5_run_124 : decode cX5_run 124 = .ok (.goto 4, 3) := by decide +kernel
theorem dX5_run_127 : decode cX5_run 127 = .ok (.iload_n 3, 1) := by decide +kernel
theorem dX5_run_128 : decode cX5_run 128 = .ok (.ireturn, 1) := by decide +kernel
theorem dX5_feed_0 : decode cX5_feed 0 = .ok (.iload_n 3, 1) := by decide +kernel
theorem dX5_feed_1 : decode cX5_feed 1 = .ok (.iconst 1, 1) := by decide +kernel
theorem dX5_feed_2 : decode cX5_feed 2 = .ok (.if_icmp .lt 9, 3) := by decide +kernel
theorem dX5_feed_5 : decode cX5_feed 5 = .ok (.iload_n 3, 1) := by decide +kernel
theorem dX5_feed_6 : decode cX5_feed 6 = .ok (.bipush 8, 2) := by decide +kernel
theorem dX5_feed_8 : decode cX5_feed 8 = .ok (.if_icmp .le 6, 3) := by decide +kernel
theorem dX5_feed_11 : decode cX5_feed 11 = .ok (.ldc 59, 2) := by decide +kernel
theorem dX5_feed_13 : decode cX5_feed 13 = .ok (.ireturn, 1) := by decide +kernel
theorem dX5_feed_14 : decode cX5_feed 14 = .ok (.aload_n 0, 1) := by decide +kernel
theorem dX5_feed_15 : decode cX5_feed 15 = .ok (.getfield 19, 3) := by decide +kernel
theorem dX5_feed_18 : decode cX5_feed 18 = .ok (.getfield 102, 3) := by decide +kernel
theorem dX5_feed_21 : decode cX5_feed 21 = .ok (.iload_n 3, 1) := by decide +kernel
theorem dX5_feed_22 : decode cX5_feed 22 = .ok (.iadd, 1) := by decide +kernel
theorem dX5_feed_23 : decode cX5_feed 23 = .ok (.sipush 400, 3) := by decide +kernel
theorem dX5_feed_26 : decode cX5_feed 26 = .ok (.if_icmp .le 6, 3) := by decide +kernel
theorem dX5_feed_29 : decode cX5_feed 29 = .ok (.ldc 103, 2) := by decide +kernel
theorem dX5_feed_31 : decode cX5_feed 31 = .ok (.ireturn, 1) := by decide +kernel
theorem dX5_feed_32 : decode cX5_feed 32 = .ok (.iload_n 3, 1) := by decide +kernel
theorem dX5_feed_33 : decode cX5_feed 33 = .ok (.iconst 1, 1) := by decide +kernel
theorem dX5_feed_34 : decode cX5_feed 34 = .ok (.isub, 1) := by decide +kernel
theorem dX5_feed_35 : decode cX5_feed 35 = .ok (.istore 4, 2) := by decide +kernel
theorem dX5_feed_37 : decode cX5_feed 37 = .ok (.iload 4, 2) := by decide +kernel
theorem dX5_feed_39 : decode cX5_feed 39 = .ok (.ifCond .lt 46, 3) := by decide +kernel
theorem dX5_feed_42 : decode cX5_feed 42 = .ok (.aload_n 0, 1) := by decide +kernel
theorem dX5_feed_43 : decode cX5_feed 43 = .ok (.getfield 19, 3) := by decide +kernel
theorem dX5_feed_46 : decode cX5_feed 46 = .ok (.getfield 104, 3) := by decide +kernel
theorem dX5_feed_49 : decode cX5_feed 49 = .ok (.aload_n 0, 1) := by decide +kernel
theorem dX5_feed_50 : decode cX5_feed 50 = .ok (.getfield 19, 3) := by decide +kernel
theorem dX5_feed_53 : decode cX5_feed 53 = .ok (.getfield 102, 3) := by decide +kernel
theorem dX5_feed_56 : decode cX5_feed 56 = .ok (.lload_n 1, 1) := by decide +kernel
theorem dX5_feed_57 : decode cX5_feed 57 = .ok (.bipush 8, 2) := by decide +kernel
theorem dX5_feed_59 : decode cX5_feed 59 = .ok (.iload 4, 2) := by decide +kernel
theorem dX5_feed_61 : decode cX5_feed 61 = .ok (.imul, 1) := by decide +kernel
theorem dX5_feed_62 : decode cX5_feed 62 = .ok (.lshr, 1) := by decide +kernel
theorem dX5_feed_63 : decode cX5_feed 63 = .ok (.l2i, 1) := by decide +kernel
theorem dX5_feed_64 : decode cX5_feed 64 = .ok (.i2b, 1) := by decide +kernel
theorem dX5_feed_65 : decode cX5_feed 65 = .ok (.bastore, 1) := by decide +kernel
theorem dX5_feed_66 : decode cX5_feed 66 = .ok (.aload_n 0, 1) := by decide +kernel
theorem dX5_feed_67 : decode cX5_feed 67 = .ok (.getfield 19, 3) := by decide +kernel
theorem dX5_feed_70 : decode cX5_feed 70 = .ok (.dup, 1) := by decide +kernel
theorem dX5_feed_71 : decode cX5_feed 71 = .ok (.getfield 102, 3) := by decide +kernel
theorem dX5_feed_74 : decode cX5_feed 74 = .ok (.iconst 1, 1) := by decide +kernel
theorem dX5_feed_75 : decode cX5_feed 75 = .ok (.iadd, 1) := by decide +kernel
theorem dX5_feed_76 : decode cX5_feed 76 = .ok (.putfield 102, 3) := by decide +kernel
theorem dX5_feed_79 : decode cX5_feed 79 = .ok (.iinc 4 (-1), 3) := by decide +kernel
theorem dX5_feed_82 : decode cX5_feed 82 = .ok (.goto (-45), 3) := by decide +kernel
theorem dX5_feed_85 : decode cX5_feed 85 = .ok (.aload_n 0, 1) := by decide +kernel
theorem dX5_feed_86 : decode cX5_feed 86 = .ok (.getfield 19, 3) := by decide +kernel
theorem dX5_feed_89 : decode cX5_feed 89 = .ok (.getfield 102, 3) := by decide +kernel
theorem dX5_feed_92 : decode cX5_feed 92 = .ok (.ireturn, 1) := by decide +kernel
section O5
variable {G : GG} {z : Nat} {σ : AH} {lf fd : Int32} {rl rn : Nat → Int32} {ri : Nat → Nat → Int32} {tp rd : Nat → Int32} {dd d df : TS} {nx kp : Nat} {da di : Nat → TS} {tr : Nat} {bo ne : Nat → Int32}
theorem c_gatherNeeds (X : XR σ lf fd rl rn ri tp rd dd d df nx kp da di tr bo ne) (hN : sN d ≤ 7) (hu : 1 ≤ sU d) (hu2 : sU d ≤ 20) : Ct G yX5_gatherNeeds cX5_gatherNeeds 6 (some .int) 4 0 0 z σ [.ref 0] (some (.int (nI (gat (sD d) (sN d) (sU d) ne (sN d)).2))) z (ups σ 170 (.inl (0, 7, (gat (sD d) (sN d) (sU d) ne (sN d)).1))) := by
  refine Ct.ofJ RX5 rfl [some (.ref 0), none, none, none, none, none] rfl (by decide) (by simp [Value.category]) ?_
  refine j_iconst (nI 0) dX5_gatherNeeds_0 rfl ?_
  refine j_istore_n dX5_gatherNeeds_1 rfl (Nat.le_of_ble_eq_true rfl) rfl ?_
  refine j_iconst (nI 0) dX5_gatherNeeds_2 rfl ?_
  refine j_istore_n dX5_gatherNeeds_3 rfl (Nat.le_of_ble_eq_true rfl) rfl ?_
  suffices H : ∀ (k p : Nat) (o3 o4 o5 : Option Value), p ≤ sN d → sN d < p + k → J G RX5 cX5_gatherNeeds 6 (some .int) (TQ G 4 0 0 (some (.int (nI (gat (sD d) (sN d) (sU d) ne (sN d)).2))) z (ups σ 170 (.inl (0, 7, (gat (sD d) (sN d) (sU d) ne (sN d)).1)))) z (ups σ 170 (.inl (0, 7, (gat (sD d) (sN d) (sU d) ne p).1))) 0 0 4 [some (.ref 0), some (.int (nI (gat (sD d) (sN d) (sU d) ne p).2)), some (.int (nI p)), o3, o4, o5] [] from (by have H0 := H (sN d + 1) 0 none none none (by omega) (by omega); rw [show ups σ 170 (.inl (0, 7, (gat (sD d) (sN d) (sU d) ne 0).1)) = σ from ups_self X.2.2.2.2.2.2.2.2.2.2.2.2.2.2.2] at H0; exact H0)
  intro k
  induction k with
  | zero => intro p o3 o4 o5 h1 h2; exact absurd h2 (by omega)
  | succ k ih =>
    intro p o3 o4 o5 h1 h2
    have hle := gat_le (sD d) (sN d) (sU d) ne p
    have X0 := X
    have X := X.need (gat (sD d) (sN d) (sU d) ne p).1
    have ih2 := fun o3 o4 o5 h h9 => ih (p + 1) o3 o4 o5 h h9
    simp only [gat] at ih2
    refine j_iload_n dX5_gatherNeeds_4 rfl rfl ?_
    refine j_aload_n dX5_gatherNeeds_5 rfl rfl ?_
    refine j_getf dX5_gatherNeeds_6 5 4 rfl (Nat.le_of_ble_eq_true rfl) fl_X5_26 in_5 (by first | exact X.1 | exact X.2.1 | exact X.2.2.2.1 | exact X.2.2.2.2.1 | exact X.2.2.2.2.2.2.1.o | exact X.2.2.2.2.2.2.1.c | exact X.2.2.2.2.2.2.1.i | exact X.2.2.2.2.2.2.1.p | exact X.2.2.2.2.2.2.1.d | exact X.2.2.2.2.2.2.2.1.o | exact X.2.2.2.2.2.2.2.2.1 | exact X.2.2.2.2.2.2.2.2.2.1 | exact X.2.2.2.2.2.2.2.2.2.2.2.1 | exact X.2.2.2.2.2.2.2.2.2.2.2.2.2.1 | exact X.2.2.2.2.2.2.2.2.2.2.2.2.2.2.1 | exact X.2.2.2.2.2.2.2.2.2.2.2.2.2.2.2) rfl ?_
    refine j_getf dX5_gatherNeeds_9 4 4 rfl (Nat.le_of_ble_eq_true rfl) fl_X5_131 in_4 (by first | exact X.1 | exact X.2.1 | exact X.2.2.2.1 | exact X.2.2.2.2.1 | exact X.2.2.2.2.2.2.1.o | exact X.2.2.2.2.2.2.1.c | exact X.2.2.2.2.2.2.1.i | exact X.2.2.2.2.2.2.1.p | exact X.2.2.2.2.2.2.1.d | exact X.2.2.2.2.2.2.2.1.o | exact X.2.2.2.2.2.2.2.2.1 | exact X.2.2.2.2.2.2.2.2.2.1 | exact X.2.2.2.2.2.2.2.2.2.2.2.1 | exact X.2.2.2.2.2.2.2.2.2.2.2.2.2.1 | exact X.2.2.2.2.2.2.2.2.2.2.2.2.2.2.1 | exact X.2.2.2.2.2.2.2.2.2.2.2.2.2.2.2) rfl ?_
    refine j_icmp_geN 113 dX5_gatherNeeds_12 (by decide) (by omega) (by omega) (fun b12 => ?_) (fun b12 => ?_)
    · obtain rfl : p = sN d := by omega
      refine j_iload_n dX5_gatherNeeds_113 rfl rfl ?_
      exact j_iret rfl dX5_gatherNeeds_114 rfl rfl (Nat.le_of_ble_eq_true rfl) (Nat.le_of_ble_eq_true rfl)
    · refine j_aload_n dX5_gatherNeeds_15 rfl rfl ?_
      refine j_getf dX5_gatherNeeds_16 5 4 rfl (Nat.le_of_ble_eq_true rfl) fl_X5_26 in_5 (by first | exact X.1 | exact X.2.1 | exact X.2.2.2.1 | exact X.2.2.2.2.1 | exact X.2.2.2.2.2.2.1.o | exact X.2.2.2.2.2.2.1.c | exact X.2.2.2.2.2.2.1.i | exact X.2.2.2.2.2.2.1.p | exact X.2.2.2.2.2.2.1.d | exact X.2.2.2.2.2.2.2.1.o | exact X.2.2.2.2.2.2.2.2.1 | exact X.2.2.2.2.2.2.2.2.2.1 | exact X.2.2.2.2.2.2.2.2.2.2.2.1 | exact X.2.2.2.2.2.2.2.2.2.2.2.2.2.1 | exact X.2.2.2.2.2.2.2.2.2.2.2.2.2.2.1 | exact X.2.2.2.2.2.2.2.2.2.2.2.2.2.2.2) rfl ?_
      refine j_iload_n dX5_gatherNeeds_19 rfl rfl ?_
      refine j_callV (c_shadeOfS X.2.2.2.2.2.2.1 hN (by omega) hu hu2) dX5_gatherNeeds_20 rfl mv_X5_193 (by first | exact X.1 | exact X.2.1 | exact X.2.2.2.1 | exact X.2.2.2.2.1 | exact X.2.2.2.2.2.2.1.o | exact X.2.2.2.2.2.2.1.c | exact X.2.2.2.2.2.2.1.i | exact X.2.2.2.2.2.2.1.p | exact X.2.2.2.2.2.2.1.d | exact X.2.2.2.2.2.2.2.1.o | exact X.2.2.2.2.2.2.2.2.1 | exact X.2.2.2.2.2.2.2.2.2.1 | exact X.2.2.2.2.2.2.2.2.2.2.2.1 | exact X.2.2.2.2.2.2.2.2.2.2.2.2.2.1 | exact X.2.2.2.2.2.2.2.2.2.2.2.2.2.2.1 | exact X.2.2.2.2.2.2.2.2.2.2.2.2.2.2.2) rfl ⟨(Nat.le_of_ble_eq_true rfl), (Nat.le_of_ble_eq_true rfl)⟩ ⟨(Nat.le_of_ble_eq_true rfl), (Nat.le_of_ble_eq_true rfl)⟩ (Nat.le_of_ble_eq_true rfl) ?_
      refine j_istore_n dX5_gatherNeeds_23 rfl (Nat.le_of_ble_eq_true rfl) rfl ?_
      refine j_iload_n dX5_gatherNeeds_24 rfl rfl ?_
      refine j_iconst (nI 1) dX5_gatherNeeds_25 rfl ?_
      refine j_icmp_lt 107 dX5_gatherNeeds_26 (by decide) (fun b26 => ?_) (fun b26 => ?_)
      · first | refine j_iincN dX5_gatherNeeds_107 rfl (Nat.le_of_ble_eq_true rfl) rfl ?_ | refine j_iinc _ dX5_gatherNeeds_107 rfl rfl (Nat.le_of_ble_eq_true rfl) rfl ?_
        refine j_goto 4 dX5_gatherNeeds_110 (by decide) ?_
        rw [if_pos b26] at ih2; exact ih2 _ _ _ (by omega) (by omega)
      · refine j_aload_n dX5_gatherNeeds_29 rfl rfl ?_
        refine j_getf dX5_gatherNeeds_30 5 4 rfl (Nat.le_of_ble_eq_true rfl) fl_X5_26 in_5 (by first | exact X.1 | exact X.2.1 | exact X.2.2.2.1 | exact X.2.2.2.2.1 | exact X.2.2.2.2.2.2.1.o | exact X.2.2.2.2.2.2.1.c | exact X.2.2.2.2.2.2.1.i | exact X.2.2.2.2.2.2.1.p | exact X.2.2.2.2.2.2.1.d | exact X.2.2.2.2.2.2.2.1.o | exact X.2.2.2.2.2.2.2.2.1 | exact X.2.2.2.2.2.2.2.2.2.1 | exact X.2.2.2.2.2.2.2.2.2.2.2.1 | exact X.2.2.2.2.2.2.2.2.2.2.2.2.2.1 | exact X.2.2.2.2.2.2.2.2.2.2.2.2.2.2.1 | exact X.2.2.2.2.2.2.2.2.2.2.2.2.2.2.2) rfl ?_
        refine j_iload_n dX5_gatherNeeds_33 rfl rfl ?_
        refine j_callV (c_owedByS X.2.2.2.2.2.2.1 hN (by omega)) dX5_gatherNeeds_34 rfl mv_X5_190 (by first | exact X.1 | exact X.2.1 | exact X.2.2.2.1 | exact X.2.2.2.2.1 | exact X.2.2.2.2.2.2.1.o | exact X.2.2.2.2.2.2.1.c | exact X.2.2.2.2.2.2.1.i | exact X.2.2.2.2.2.2.1.p | exact X.2.2.2.2.2.2.1.d | exact X.2.2.2.2.2.2.2.1.o | exact X.2.2.2.2.2.2.2.2.1 | exact X.2.2.2.2.2.2.2.2.2.1 | exact X.2.2.2.2.2.2.2.2.2.2.2.1 | exact X.2.2.2.2.2.2.2.2.2.2.2.2.2.1 | exact X.2.2.2.2.2.2.2.2.2.2.2.2.2.2.1 | exact X.2.2.2.2.2.2.2.2.2.2.2.2.2.2.2) rfl ⟨(Nat.le_of_ble_eq_true rfl), (Nat.le_of_ble_eq_true rfl)⟩ ⟨(Nat.le_of_ble_eq_true rfl), (Nat.le_of_ble_eq_true rfl)⟩ (Nat.le_of_ble_eq_true rfl) ?_
        refine j_iload_n dX5_gatherNeeds_37 rfl rfl ?_
        refine j_aload_n dX5_gatherNeeds_38 rfl rfl ?_
        refine j_getf dX5_gatherNeeds_39 5 4 rfl (Nat.le_of_ble_eq_true rfl) fl_X5_26 in_5 (by first | exact X.1 | exact X.2.1 | exact X.2.2.2.1 | exact X.2.2.2.2.1 | exact X.2.2.2.2.2.2.1.o | exact X.2.2.2.2.2.2.1.c | exact X.2.2.2.2.2.2.1.i | exact X.2.2.2.2.2.2.1.p | exact X.2.2.2.2.2.2.1.d | exact X.2.2.2.2.2.2.2.1.o | exact X.2.2.2.2.2.2.2.2.1 | exact X.2.2.2.2.2.2.2.2.2.1 | exact X.2.2.2.2.2.2.2.2.2.2.2.1 | exact X.2.2.2.2.2.2.2.2.2.2.2.2.2.1 | exact X.2.2.2.2.2.2.2.2.2.2.2.2.2.2.1 | exact X.2.2.2.2.2.2.2.2.2.2.2.2.2.2.2) rfl ?_
        refine j_getf dX5_gatherNeeds_42 4 5 rfl (Nat.le_of_ble_eq_true rfl) fl_X5_262 in_4 (by first | exact X.1 | exact X.2.1 | exact X.2.2.2.1 | exact X.2.2.2.2.1 | exact X.2.2.2.2.2.2.1.o | exact X.2.2.2.2.2.2.1.c | exact X.2.2.2.2.2.2.1.i | exact X.2.2.2.2.2.2.1.p | exact X.2.2.2.2.2.2.1.d | exact X.2.2.2.2.2.2.2.1.o | exact X.2.2.2.2.2.2.2.2.1 | exact X.2.2.2.2.2.2.2.2.2.1 | exact X.2.2.2.2.2.2.2.2.2.2.2.1 | exact X.2.2.2.2.2.2.2.2.2.2.2.2.2.1 | exact X.2.2.2.2.2.2.2.2.2.2.2.2.2.2.1 | exact X.2.2.2.2.2.2.2.2.2.2.2.2.2.2.2) rfl ?_
        refine j_imul dX5_gatherNeeds_45 ?_
        refine j_iconst (nI 1) dX5_gatherNeeds_46 rfl ?_
        refine j_isub dX5_gatherNeeds_47 ?_
        refine j_isub dX5_gatherNeeds_48 ?_
        refine j_istore dX5_gatherNeeds_49 (Nat.le_of_ble_eq_true rfl) rfl ?_
        refine j_iload_n dX5_gatherNeeds_51 rfl rfl ?_
        refine j_istore dX5_gatherNeeds_52 (Nat.le_of_ble_eq_true rfl) rfl ?_
        have hsh : ¬ shd (sD d) (sN d) (sU d) p < nI 1 := b26
        simp only [if_neg hsh] at ih2
        suffices H2 : ∀ (a : Nat) (nn : Nat → Int32), a ≤ (gat (sD d) (sN d) (sU d) ne p).2 → insL (needI (sD d) (sN d) (sU d) p) a nn = insL (needI (sD d) (sN d) (sU d) p) (gat (sD d) (sN d) (sU d) ne p).2 (gat (sD d) (sN d) (sU d) ne p).1 → J G RX5 cX5_gatherNeeds 6 (some .int) (TQ G 4 0 0 (some (.int (nI (gat (sD d) (sN d) (sU d) ne (sN d)).2))) z (ups σ 170 (.inl (0, 7, (gat (sD d) (sN d) (sU d) ne (sN d)).1)))) z (ups σ 170 (.inl (0, 7, nn))) 0 0 54 [some (.ref 0), some (.int (nI (gat (sD d) (sN d) (sU d) ne p).2)), some (.int (nI p)), some (.int (shd (sD d) (sN d) (sU d) p)), some (.int (needI (sD d) (sN d) (sU d) p)), some (.int (nI a))] [] from H2 _ _ (Nat.le_refl _) rfl
        intro a
        induction a with
        | zero =>
          intro nn ha he
          have X := X0.need nn
          have he : (nn, 0) = _ := he
          refine j_iload dX5_gatherNeeds_54 rfl ?_
          refine j_if_le 95 dX5_gatherNeeds_56 (by decide) (fun b56 => ?_) (fun b56 => by exact absurd (by decide) b56)
          refine j_aload_n dX5_gatherNeeds_95 rfl rfl ?_
          refine j_getf dX5_gatherNeeds_96 5 9 rfl (Nat.le_of_ble_eq_true rfl) fl_X5_51 in_5 (by first | exact X.1 | exact X.2.1 | exact X.2.2.2.1 | exact X.2.2.2.2.1 | exact X.2.2.2.2.2.2.1.o | exact X.2.2.2.2.2.2.1.c | exact X.2.2.2.2.2.2.1.i | exact X.2.2.2.2.2.2.1.p | exact X.2.2.2.2.2.2.1.d | exact X.2.2.2.2.2.2.2.1.o | exact X.2.2.2.2.2.2.2.2.1 | exact X.2.2.2.2.2.2.2.2.2.1 | exact X.2.2.2.2.2.2.2.2.2.2.2.1 | exact X.2.2.2.2.2.2.2.2.2.2.2.2.2.1 | exact X.2.2.2.2.2.2.2.2.2.2.2.2.2.2.1 | exact X.2.2.2.2.2.2.2.2.2.2.2.2.2.2.2) rfl ?_
          refine j_iload dX5_gatherNeeds_99 rfl ?_
          refine j_iload dX5_gatherNeeds_101 rfl ?_
          refine j_iast dX5_gatherNeeds_103 (by first | exact X.1 | exact X.2.1 | exact X.2.2.2.1 | exact X.2.2.2.2.1 | exact X.2.2.2.2.2.2.1.o | exact X.2.2.2.2.2.2.1.c | exact X.2.2.2.2.2.2.1.i | exact X.2.2.2.2.2.2.1.p | exact X.2.2.2.2.2.2.1.d | exact X.2.2.2.2.2.2.2.1.o | exact X.2.2.2.2.2.2.2.2.1 | exact X.2.2.2.2.2.2.2.2.2.1 | exact X.2.2.2.2.2.2.2.2.2.2.2.1 | exact X.2.2.2.2.2.2.2.2.2.2.2.2.2.1 | exact X.2.2.2.2.2.2.2.2.2.2.2.2.2.2.1 | exact X.2.2.2.2.2.2.2.2.2.2.2.2.2.2.2) rfl (by omega) (by decide) _ ups_ups ?_
          first | refine j_iincN dX5_gatherNeeds_104 rfl (Nat.le_of_ble_eq_true rfl) rfl ?_ | refine j_iinc _ dX5_gatherNeeds_104 rfl rfl (Nat.le_of_ble_eq_true rfl) rfl ?_
          first | refine j_iincN dX5_gatherNeeds_107 rfl (Nat.le_of_ble_eq_true rfl) rfl ?_ | refine j_iinc _ dX5_gatherNeeds_107 rfl rfl (Nat.le_of_ble_eq_true rfl) rfl ?_
          refine j_goto 4 dX5_gatherNeeds_110 (by decide) ?_
          rw [← he] at ih2; exact ih2 _ _ _ (by omega) (by omega)
        | succ a iha =>
          intro nn ha he
          have X := X0.need nn
          have e1 : insL (needI (sD d) (sN d) (sU d) p) (a + 1) nn = if nn a ≤ needI (sD d) (sN d) (sU d) p then (nn, a + 1) else insL (needI (sD d) (sN d) (sU d) p) a (upd nn (a + 1) (nn a)) := rfl
          refine j_iload dX5_gatherNeeds_54 rfl ?_
          refine j_if_le 95 dX5_gatherNeeds_56 (by decide) (fun b56 => by exact absurd b56 (nI_nle (by omega) (by omega))) (fun b56 => ?_)
          refine j_aload_n dX5_gatherNeeds_59 rfl rfl ?_
          refine j_getf dX5_gatherNeeds_60 5 9 rfl (Nat.le_of_ble_eq_true rfl) fl_X5_51 in_5 (by first | exact X.1 | exact X.2.1 | exact X.2.2.2.1 | exact X.2.2.2.2.1 | exact X.2.2.2.2.2.2.1.o | exact X.2.2.2.2.2.2.1.c | exact X.2.2.2.2.2.2.1.i | exact X.2.2.2.2.2.2.1.p | exact X.2.2.2.2.2.2.1.d | exact X.2.2.2.2.2.2.2.1.o | exact X.2.2.2.2.2.2.2.2.1 | exact X.2.2.2.2.2.2.2.2.2.1 | exact X.2.2.2.2.2.2.2.2.2.2.2.1 | exact X.2.2.2.2.2.2.2.2.2.2.2.2.2.1 | exact X.2.2.2.2.2.2.2.2.2.2.2.2.2.2.1 | exact X.2.2.2.2.2.2.2.2.2.2.2.2.2.2.2) rfl ?_
          refine j_iload dX5_gatherNeeds_63 rfl ?_
          refine j_iconst (nI 1) dX5_gatherNeeds_65 rfl ?_
          refine j_isubN dX5_gatherNeeds_66 (by omega) ?_
          refine j_iald dX5_gatherNeeds_67 (by first | exact X.1 | exact X.2.1 | exact X.2.2.2.1 | exact X.2.2.2.2.1 | exact X.2.2.2.2.2.2.1.o | exact X.2.2.2.2.2.2.1.c | exact X.2.2.2.2.2.2.1.i | exact X.2.2.2.2.2.2.1.p | exact X.2.2.2.2.2.2.1.d | exact X.2.2.2.2.2.2.2.1.o | exact X.2.2.2.2.2.2.2.2.1 | exact X.2.2.2.2.2.2.2.2.2.1 | exact X.2.2.2.2.2.2.2.2.2.2.2.1 | exact X.2.2.2.2.2.2.2.2.2.2.2.2.2.1 | exact X.2.2.2.2.2.2.2.2.2.2.2.2.2.2.1 | exact X.2.2.2.2.2.2.2.2.2.2.2.2.2.2.2) rfl (by omega) (by decide) ?_
          refine j_iload dX5_gatherNeeds_68 rfl ?_
          refine j_icmp_le 95 dX5_gatherNeeds_70 (by decide) (fun b70 => ?_) (fun b70 => ?_)
          · refine j_aload_n dX5_gatherNeeds_95 rfl rfl ?_
            refine j_getf dX5_gatherNeeds_96 5 9 rfl (Nat.le_of_ble_eq_true rfl) fl_X5_51 in_5 (by first | exact X.1 | exact X.2.1 | exact X.2.2.2.1 | exact X.2.2.2.2.1 | exact X.2.2.2.2.2.2.1.o | exact X.2.2.2.2.2.2.1.c | exact X.2.2.2.2.2.2.1.i | exact X.2.2.2.2.2.2.1.p | exact X.2.2.2.2.2.2.1.d | exact X.2.2.2.2.2.2.2.1.o | exact X.2.2.2.2.2.2.2.2.1 | exact X.2.2.2.2.2.2.2.2.2.1 | exact X.2.2.2.2.2.2.2.2.2.2.2.1 | exact X.2.2.2.2.2.2.2.2.2.2.2.2.2.1 | exact X.2.2.2.2.2.2.2.2.2.2.2.2.2.2.1 | exact X.2.2.2.2.2.2.2.2.2.2.2.2.2.2.2) rfl ?_
            refine j_iload dX5_gatherNeeds_99 rfl ?_
            refine j_iload dX5_gatherNeeds_101 rfl ?_
            refine j_iast dX5_gatherNeeds_103 (by first | exact X.1 | exact X.2.1 | exact X.2.2.2.1 | exact X.2.2.2.2.1 | exact X.2.2.2.2.2.2.1.o | exact X.2.2.2.2.2.2.1.c | exact X.2.2.2.2.2.2.1.i | exact X.2.2.2.2.2.2.1.p | exact X.2.2.2.2.2.2.1.d | exact X.2.2.2.2.2.2.2.1.o | exact X.2.2.2.2.2.2.2.2.1 | exact X.2.2.2.2.2.2.2.2.2.1 | exact X.2.2.2.2.2.2.2.2.2.2.2.1 | exact X.2.2.2.2.2.2.2.2.2.2.2.2.2.1 | exact X.2.2.2.2.2.2.2.2.2.2.2.2.2.2.1 | exact X.2.2.2.2.2.2.2.2.2.2.2.2.2.2.2) rfl (by omega) (by decide) _ ups_ups ?_
            first | refine j_iincN dX5_gatherNeeds_104 rfl (Nat.le_of_ble_eq_true rfl) rfl ?_ | refine j_iinc _ dX5_gatherNeeds_104 rfl rfl (Nat.le_of_ble_eq_true rfl) rfl ?_
            first | refine j_iincN dX5_gatherNeeds_107 rfl (Nat.le_of_ble_eq_true rfl) rfl ?_ | refine j_iinc _ dX5_gatherNeeds_107 rfl rfl (Nat.le_of_ble_eq_true rfl) rfl ?_
            refine j_goto 4 dX5_gatherNeeds_110 (by decide) ?_
            rw [e1, if_pos (show nn a ≤ _ from b70)] at he
            rw [← he] at ih2; exact ih2 _ _ _ (by omega) (by omega)
          · refine j_aload_n dX5_gatherNeeds_73 rfl rfl ?_
            refine j_getf dX5_gatherNeeds_74 5 9 rfl (Nat.le_of_ble_eq_true rfl) fl_X5_51 in_5 (by first | exact X.1 | exact X.2.1 | exact X.2.2.2.1 | exact X.2.2.2.2.1 | exact X.2.2.2.2.2.2.1.o | exact X.2.2.2.2.2.2.1.c | exact X.2.2.2.2.2.2.1.i | exact X.2.2.2.2.2.2.1.p | exact X.2.2.2.2.2.2.1.d | exact X.2.2.2.2.2.2.2.1.o | exact X.2.2.2.2.2.2.2.2.1 | exact X.2.2.2.2.2.2.2.2.2.1 | exact X.2.2.2.2.2.2.2.2.2.2.2.1 | exact X.2.2.2.2.2.2.2.2.2.2.2.2.2.1 | exact X.2.2.2.2.2.2.2.2.2.2.2.2.2.2.1 | exact X.2.2.2.2.2.2.2.2.2.2.2.2.2.2.2) rfl ?_
            refine j_iload dX5_gatherNeeds_77 rfl ?_
            refine j_aload_n dX5_gatherNeeds_79 rfl rfl ?_
            refine j_getf dX5_gatherNeeds_80 5 9 rfl (Nat.le_of_ble_eq_true rfl) fl_X5_51 in_5 (by first | exact X.1 | exact X.2.1 | exact X.2.2.2.1 | exact X.2.2.2.2.1 | exact X.2.2.2.2.2.2.1.o | exact X.2.2.2.2.2.2.1.c | exact X.2.2.2.2.2.2.1.i | exact X.2.2.2.2.2.2.1.p | exact X.2.2.2.2.2.2.1.d | exact X.2.2.2.2.2.2.2.1.o | exact X.2.2.2.2.2.2.2.2.1 | exact X.2.2.2.2.2.2.2.2.2.1 | exact X.2.2.2.2.2.2.2.2.2.2.2.1 | exact X.2.2.2.2.2.2.2.2.2.2.2.2.2.1 | exact X.2.2.2.2.2.2.2.2.2.2.2.2.2.2.1 | exact X.2.2.2.2.2.2.2.2.2.2.2.2.2.2.2) rfl ?_
            refine j_iload dX5_gatherNeeds_83 rfl ?_
            refine j_iconst (nI 1) dX5_gatherNeeds_85 rfl ?_
            refine j_isubN dX5_gatherNeeds_86 (by omega) ?_
            refine j_iald dX5_gatherNeeds_87 (by first | exact X.1 | exact X.2.1 | exact X.2.2.2.1 | exact X.2.2.2.2.1 | exact X.2.2.2.2.2.2.1.o | exact X.2.2.2.2.2.2.1.c | exact X.2.2.2.2.2.2.1.i | exact X.2.2.2.2.2.2.1.p | exact X.2.2.2.2.2.2.1.d | exact X.2.2.2.2.2.2.2.1.o | exact X.2.2.2.2.2.2.2.2.1 | exact X.2.2.2.2.2.2.2.2.2.1 | exact X.2.2.2.2.2.2.2.2.2.2.2.1 | exact X.2.2.2.2.2.2.2.2.2.2.2.2.2.1 | exact X.2.2.2.2.2.2.2.2.2.2.2.2.2.2.1 | exact X.2.2.2.2.2.2.2.2.2.2.2.2.2.2.2) rfl (by omega) (by decide) ?_
            refine j_iast dX5_gatherNeeds_88 (by first | exact X.1 | exact X.2.1 | exact X.2.2.2.1 | exact X.2.2.2.2.1 | exact X.2.2.2.2.2.2.1.o | exact X.2.2.2.2.2.2.1.c | exact X.2.2.2.2.2.2.1.i | exact X.2.2.2.2.2.2.1.p | exact X.2.2.2.2.2.2.1.d | exact X.2.2.2.2.2.2.2.1.o | exact X.2.2.2.2.2.2.2.2.1 | exact X.2.2.2.2.2.2.2.2.2.1 | exact X.2.2.2.2.2.2.2.2.2.2.2.1 | exact X.2.2.2.2.2.2.2.2.2.2.2.2.2.1 | exact X.2.2.2.2.2.2.2.2.2.2.2.2.2.2.1 | exact X.2.2.2.2.2.2.2.2.2.2.2.2.2.2.2) rfl (by omega) (by decide) _ ups_ups ?_
            refine j_iinc (nI a) dX5_gatherNeeds_89 rfl (by rw [show Int32.ofInt (-1) = (-1 : Int32) from by decide]; exact pk_m1 _) (Nat.le_of_ble_eq_true rfl) rfl ?_
            refine j_goto 54 dX5_gatherNeeds_92 (by decide) ?_
            rw [e1, if_neg (show ¬ nn a ≤ _ from b70)] at he
            exact iha _ (by omega) he
end O5

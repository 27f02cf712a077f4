/-! THE TOWN: five cells from t on: the object, cash, income, painted, debts -/
def tw (σ : AH) (t : Nat) (ca inc pa de : Nat → Int32) (pe un ra qu hi fa : Int32) : AH := fun k =>
  if k = t then some (.inr (.inr (4, [.ref (t + 1), .ref (t + 2), .ref (t + 3), .ref (t + 4), .int pe, .int un, .int ra, .int qu, .int hi, .int fa])))
  else if k = t + 1 then some (.inl (0, 7, ca)) else if k = t + 2 then some (.inl (0, 7, inc)) else if k = t + 3 then some (.inl (0, 7, pa)) else if k = t + 4 then some (.inl (0, 49, de)) else σ k
section TW
variable {σ : AH} {t : Nat} {ca inc pa de ca2 inc2 pa2 de2 : Nat → Int32} {pe un ra qu hi fa pe2 un2 ra2 qu2 hi2 fa2 : Int32}
theorem tw_o : tw σ t ca inc pa de pe un ra qu hi fa t = some (.inr (.inr (4, [.ref (t + 1), .ref (t + 2), .ref (t + 3), .ref (t + 4), .int pe, .int un, .int ra, .int qu, .int hi, .int fa]))) := by simp [tw]
theorem tw_c : tw σ t ca inc pa de pe un ra qu hi fa (t + 1) = some (.inl (0, 7, ca)) := by simp [tw]
theorem tw_i : tw σ t ca inc pa de pe un ra qu hi fa (t + 2) = some (.inl (0, 7, inc)) := by simp [tw]
theorem tw_p : tw σ t ca inc pa de pe un ra qu hi fa (t + 3) = some (.inl (0, 7, pa)) := by simp [tw]
theorem tw_d : tw σ t ca inc pa de pe un ra qu hi fa (t + 4) = some (.inl (0, 49, de)) := by simp [tw]
theorem tw_x {k : Nat} (h : k < t ∨ t + 4 < k) : tw σ t ca inc pa de pe un ra qu hi fa k = σ k := by
  unfold tw
  rw [if_neg (by omega), if_neg (by omega), if_neg (by omega), if_neg (by omega), if_neg (by omega)]
theorem tws_o : ups (tw σ t ca inc pa de pe un ra qu hi fa) t (.inr (.inr (4, [.ref (t + 1), .ref (t + 2), .ref (t + 3), .ref (t + 4), .int pe2, .int un2, .int ra2, .int qu2, .int hi2, .int fa2]))) = tw σ t ca inc pa de pe2 un2 ra2 qu2 hi2 fa2 := by
  funext k; unfold ups tw; split <;> simp_all
theorem tws_c : ups (tw σ t ca inc pa de pe un ra qu hi fa) (t + 1) (.inl (0, 7, ca2)) = tw σ t ca2 inc pa de pe un ra qu hi fa := by
  funext k; unfold ups tw; split <;> simp_all
theorem tws_i : ups (tw σ t ca inc pa de pe un ra qu hi fa) (t + 2) (.inl (0, 7, inc2)) = tw σ t ca inc2 pa de pe un ra qu hi fa := by
  funext k; unfold ups tw; split <;> simp_all
theorem tws_p : ups (tw σ t ca inc pa de pe un ra qu hi fa) (t + 3) (.inl (0, 7, pa2)) = tw σ t ca inc pa2 de pe un ra qu hi fa := by
  funext k; unfold ups tw; split <;> simp_all
theorem tws_d : ups (tw σ t ca inc pa de pe un ra qu hi fa) (t + 4) (.inl (0, 49, de2)) = tw σ t ca inc pa de2 pe un ra qu hi fa := by
  funext k; unfold ups tw; split <;> simp_all
theorem tw_tw : tw (tw σ t ca inc pa de pe un ra qu hi fa) t ca2 inc2 pa2 de2 pe2 un2 ra2 qu2 hi2 fa2 = tw σ t ca2 inc2 pa2 de2 pe2 un2 ra2 qu2 hi2 fa2 := by
  funext k; unfold tw; repeat (split; rfl)
  rfl
end TW
/-- the sum of f 0 .. f (n - 1) -/
def sumR (f : Nat → Int32) : Nat → Int32
  | 0 => nI 0
  | n + 1 => sumR f n + f n
def minI (x y : Int32) : Int32 := if y < x then y else x
theorem dX5_bitOf_0 : decode cX5_bitOf 0 = .ok (.iload_n 0, 1) := by decide +kernel
theorem dX5_bitOf_1 : decode cX5_bitOf 1 = .ok (.iload_n 1, 1) := by decide +kernel
theorem dX5_bitOf_2 : decode cX5_bitOf 2 = .ok (.ishr, 1) := by decide +kernel
theorem dX5_bitOf_3 : decode cX5_bitOf 3 = .ok (.iconst 1, 1) := by decide +kernel
theorem dX5_bitOf_4 : decode cX5_bitOf 4 = .ok (.iand, 1) := by decide +kernel
theorem dX5_bitOf_5 : decode cX5_bitOf 5 = .ok (.ireturn, 1) := by decide +kernel
theorem dX4_debtOf_0 : decode cX4_debtOf 0 = .ok (.aload_n 0, 1) := by decide +kernel
theorem dX4_debtOf_1 : decode cX4_debtOf 1 = .ok (.getfield 21, 3) := by decide +kernel
theorem dX4_debtOf_4 : decode cX4_debtOf 4 = .ok (.iload_n 1, 1) := by decide +kernel
theorem dX4_debtOf_5 : decode cX4_debtOf 5 = .ok (.bipush 7, 2) := by decide +kernel
theorem dX4_debtOf_7 : decode cX4_debtOf 7 = .ok (.imul, 1) := by decide +kernel
theorem dX4_debtOf_8 : decode cX4_debtOf 8 = .ok (.iload_n 2, 1) := by decide +kernel
theorem dX4_debtOf_9 : decode cX4_debtOf 9 = .ok (.iadd, 1) := by decide +kernel
theorem dX4_debtOf_10 : decode cX4_debtOf 10 = .ok (.iaload, 1) := by decide +kernel
theorem dX4_debtOf_11 : decode cX4_debtOf 11 = .ok (.ireturn, 1) := by decide +kernel
theorem dX4_owedBy_0 : decode cX4_owedBy 0 = .ok (.iconst 0, 1) := by decide +kernel
theorem dX4_owedBy_1 : decode cX4_owedBy 1 = .ok (.istore_n 2, 1) := by decide +kernel
theorem dX4_owedBy_2 : decode cX4_owedBy 2 = .ok (.iconst 0, 1) := by decide +kernel
theorem dX4_owedBy_3 : decode cX4_owedBy 3 = .ok (.istore_n 3, 1) := by decide +kernel
theorem dX4_owedBy_4 : decode cX4_owedBy 4 = .ok (.iload_n 3, 1) := by decide +kernel
theorem dX4_owedBy_5 : decode cX4_owedBy 5 = .ok (.aload_n 0, 1) := by decide +kernel
theorem dX4_owedBy_6 : decode cX4_owedBy 6 = .ok (.getfield 34, 3) := by decide +kernel
theorem dX4_owedBy_9 : decode cX4_owedBy 9 = .ok (.if_icmp .ge 18, 3) := by decide +kernel
theorem dX4_owedBy_12 : decode cX4_owedBy 12 = .ok (.iload_n 2, 1) := by decide +kernel
theorem dX4_owedBy_13 : decode cX4_owedBy 13 = .ok (.aload_n 0, 1) := by decide +kernel
theorem dX4_owedBy_14 : decode cX4_owedBy 14 = .ok (.iload_n 1, 1) := by decide +kernel
theorem dX4_owedBy_15 : decode cX4_owedBy 15 = .ok (.iload_n 3, 1) := by decide +kernel
theorem dX4_owedBy_16 : decode cX4_owedBy 16 = .ok (.invokevirtual 49, 3) := by decide +kernel
theorem dX4_owedBy_19 : decode cX4_owedBy 19 = .ok (.iadd, 1) := by decide +kernel
theorem dX4_owedBy_20 : decode cX4_owedBy 20 = .ok (.istore_n 2, 1) := by decide +kernel
theorem dX4_owedBy_21 : decode cX4_owedBy 21 = .ok (.iinc 3 1, 3) := by decide +kernel
theorem dX4_owedBy_24 : decode cX4_owedBy 24 = .ok (.goto (-20), 3) := by decide +kernel
theorem dX4_owedBy_27 : decode cX4_owedBy 27 = .ok (.iload_n 2, 1) := by decide +kernel
theorem dX4_owedBy_28 : decode cX4_owedBy 28 = .ok (.ireturn, 1) := by decide +kernel
theorem dX4_shadeOf_0 : decode cX4_shadeOf 0 = .ok (.aload_n 0, 1) := by decide +kernel
theorem dX4_shadeOf_1 : decode cX4_shadeOf 1 = .ok (.getfield 24, 3) := by decide +kernel
theorem dX4_shadeOf_4 : decode cX4_shadeOf 4 = .ok (.iconst 1, 1) := by decide +kernel
theorem dX4_shadeOf_5 : decode cX4_shadeOf 5 = .ok (.if_icmp .ge 7, 3) := by decide +kernel
theorem dX4_shadeOf_8 : decode cX4_shadeOf 8 = .ok (.iconst 0, 1) := by decide +kernel
theorem dX4_shadeOf_9 : decode cX4_shadeOf 9 = .ok (.goto 18, 3) := by decide +kernel
theorem dX4_shadeOf_12 : decode cX4_shadeOf 12 = .ok (.aload_n 0, 1) := by decide +kernel
theorem dX4_shadeOf_13 : decode cX4_shadeOf 13 = .ok (.iload_n 1, 1) := by decide +kernel
theorem dX4_shadeOf_14 : decode cX4_shadeOf 14 = .ok (.invokevirtual 53, 3) := by decide +kernel
theorem dX4_shadeOf_17 : decode cX4_shadeOf 17 = .ok (.aload_n 0, 1) := by decide +kernel
theorem dX4_shadeOf_18 : decode cX4_shadeOf 18 = .ok (.getfield 24, 3) := by decide +kernel
theorem dX4_shadeOf_21 : decode cX4_shadeOf 21 = .ok (.idiv, 1) := by decide +kernel
theorem dX4_shadeOf_22 : decode cX4_shadeOf 22 = .ok (.bipush 9, 2) := by decide +kernel
theorem dX4_shadeOf_24 : decode cX4_shadeOf 24 = .ok (.invokestatic 57, 3) := by decide +kernel
theorem dX4_shadeOf_27 : decode cX4_shadeOf 27 = .ok (.ireturn, 1) := by decide +kernel
section T1
variable (G : GG) (z : Nat) (σ : AH) (t : Nat) (ca inc pa de : Nat → Int32) (pe un ra qu hi fa : Int32)
theorem c_bitOf (x : Int32) (k : Int32) : Ct G yX5_bitOf cX5_bitOf 2 (some .int) 1 0 0 z σ [.int x, .int k] (some (.int ((x >>> (k &&& 31)) &&& nI 1))) z σ := by
  refine Ct.ofJ RX5 rfl [some (.int x), some (.int k)] rfl (by decide) Nat.le.refl ?_
  refine j_iload_n dX5_bitOf_0 rfl rfl ?_
  refine j_iload_n dX5_bitOf_1 rfl rfl ?_
  refine j_ishr dX5_bitOf_2 ?_
  refine j_iconst (nI 1) dX5_bitOf_3 rfl ?_
  refine j_iand dX5_bitOf_4 ?_
  exact j_iret rfl dX5_bitOf_5 rfl rfl (Nat.le_of_ble_eq_true rfl) (Nat.le_of_ble_eq_true rfl)
theorem c_debtOf {a b : Nat} (h : a * 7 + b < 49) : Ct G yX4_debtOf cX4_debtOf 3 (some .int) 1 0 0 z (tw σ t ca inc pa de pe un ra qu hi fa) [.ref t, .int (nI a), .int (nI b)] (some (.int (de (a * 7 + b)))) z (tw σ t ca inc pa de pe un ra qu hi fa) := by
  refine Ct.ofJ RX4 rfl [some (.ref t), some (.int (nI a)), some (.int (nI b))] rfl (by decide) Nat.le.refl ?_
  refine j_aload_n dX4_debtOf_0 rfl rfl ?_
  refine j_getf dX4_debtOf_1 4 3 rfl (Nat.le_of_ble_eq_true rfl) fl_X4_21 in_4 (by first | exact tw_o | exact tw_c | exact tw_i | exact tw_p | exact tw_d) rfl ?_
  refine j_iload_n dX4_debtOf_4 rfl rfl ?_
  refine j_bipush (nI 7) dX4_debtOf_5 rfl ?_
  first | refine j_imulN dX4_debtOf_7 ?_ | refine j_imul dX4_debtOf_7 ?_
  refine j_iload_n dX4_debtOf_8 rfl rfl ?_
  first | refine j_iaddN dX4_debtOf_9 ?_ | refine j_iadd dX4_debtOf_9 ?_
  refine j_iald dX4_debtOf_10 (by first | exact tw_o | exact tw_c | exact tw_i | exact tw_p | exact tw_d) rfl (by omega) (by decide) ?_
  exact j_iret rfl dX4_debtOf_11 rfl rfl (Nat.le_of_ble_eq_true rfl) (Nat.le_of_ble_eq_true rfl)
theorem c_owedBy {N p : Nat} (hN : N ≤ 7) (hp : p < 7) : Ct G yX4_owedBy cX4_owedBy 4 (some .int) 2 0 0 z (tw σ t ca inc pa de (nI N) un ra qu hi fa) [.ref t, .int (nI p)] (some (.int (sumR (fun b => de (p * 7 + b)) N))) z (tw σ t ca inc pa de (nI N) un ra qu hi fa) := by
  refine Ct.ofJ RX4 rfl [some (.ref t), some (.int (nI p)), none, none] rfl (by decide) (by simp [Value.category]) ?_
  refine j_iconst (nI 0) dX4_owedBy_0 rfl ?_
  refine j_istore_n dX4_owedBy_1 rfl (Nat.le_of_ble_eq_true rfl) rfl ?_
  refine j_iconst (nI 0) dX4_owedBy_2 rfl ?_
  refine j_istore_n dX4_owedBy_3 rfl (Nat.le_of_ble_eq_true rfl) rfl ?_
  suffices H : ∀ k i, i ≤ N → N < i + k → J G RX4 cX4_owedBy 4 (some .int) (TQ G 2 0 0 (some (.int (sumR (fun b => de (p * 7 + b)) N))) z (tw σ t ca inc pa de (nI N) un ra qu hi fa)) z (tw σ t ca inc pa de (nI N) un ra qu hi fa) 0 0 4 [some (.ref t), some (.int (nI p)), some (.int (sumR (fun b => de (p * 7 + b)) i)), some (.int (nI i))] [] from H (N + 1) 0 (by omega) (by omega)
  intro k
  induction k with
  | zero => intro i h1 h2; exact absurd h2 (by omega)
  | succ k ih =>
    intro i h1 h2
    refine j_iload_n dX4_owedBy_4 rfl rfl ?_
    refine j_aload_n dX4_owedBy_5 rfl rfl ?_
    refine j_getf dX4_owedBy_6 4 4 rfl (Nat.le_of_ble_eq_true rfl) fl_X4_34 in_4 (by first | exact tw_o | exact tw_c | exact tw_i | exact tw_p | exact tw_d) rfl ?_
    refine j_icmp_geN 27 dX4_owedBy_9 (by decide) (by omega) (by omega) (fun b9 => ?_) (fun b9 => ?_)
    · obtain rfl : i = N := by omega
      refine j_iload_n dX4_owedBy_27 rfl rfl ?_
      exact j_iret rfl dX4_owedBy_28 rfl rfl (Nat.le_of_ble_eq_true rfl) (Nat.le_of_ble_eq_true rfl)
    · refine j_iload_n dX4_owedBy_12 rfl rfl ?_
      refine j_aload_n dX4_owedBy_13 rfl rfl ?_
      refine j_iload_n dX4_owedBy_14 rfl rfl ?_
      refine j_iload_n dX4_owedBy_15 rfl rfl ?_
      refine j_callV (c_debtOf G z σ t ca inc pa de (nI N) un ra qu hi fa (by omega)) dX4_owedBy_16 rfl mv_X4_49 (by first | exact tw_o | exact tw_c | exact tw_i | exact tw_p | exact tw_d) rfl ⟨(Nat.le_of_ble_eq_true rfl), (Nat.le_of_ble_eq_true rfl)⟩ ⟨(Nat.le_of_ble_eq_true rfl), (Nat.le_of_ble_eq_true rfl)⟩ (Nat.le_of_ble_eq_true rfl) ?_
      first | refine j_iaddN dX4_owedBy_19 ?_ | refine j_iadd dX4_owedBy_19 ?_
      refine j_istore_n dX4_owedBy_20 rfl (Nat.le_of_ble_eq_true rfl) rfl ?_
      first | refine j_iincN dX4_owedBy_21 rfl (Nat.le_of_ble_eq_true rfl) rfl ?_ | refine j_iinc _ dX4_owedBy_21 rfl rfl (Nat.le_of_ble_eq_true rfl) rfl ?_
      refine j_goto 4 dX4_owedBy_24 (by decide) ?_
      exact ih (i + 1) (by omega) (by omega)
theorem c_shadeOf {N p u : Nat} (hN : N ≤ 7) (hp : p < 7) (hu : 1 ≤ u) (hu2 : u ≤ 20) : Ct G yX4_shadeOf cX4_shadeOf 2 (some .int) 3 0 0 z (tw σ t ca inc pa de (nI N) (nI u) ra qu hi fa) [.ref t, .int (nI p)] (some (.int (minI (sumR (fun b => de (p * 7 + b)) N / nI u) (nI 9)))) z (tw σ t ca inc pa de (nI N) (nI u) ra qu hi fa) := by
  refine Ct.ofJ RX4 rfl [some (.ref t), some (.int (nI p))] rfl (by decide) Nat.le.refl ?_
  refine j_aload_n dX4_shadeOf_0 rfl rfl ?_
  refine j_getf dX4_shadeOf_1 4 5 rfl (Nat.le_of_ble_eq_true rfl) fl_X4_24 in_4 (by first | exact tw_o | exact tw_c | exact tw_i | exact tw_p | exact tw_d) rfl ?_
  refine j_iconst (nI 1) dX4_shadeOf_4 rfl ?_
  refine j_icmp_geN 12 dX4_shadeOf_5 (by decide) (by omega) (by omega) (fun b5 => ?_) (fun b5 => ?_)
  · refine j_aload_n dX4_shadeOf_12 rfl rfl ?_
    refine j_iload_n dX4_shadeOf_13 rfl rfl ?_
    refine j_callV (c_owedBy G z σ t ca inc pa de (nI u) ra qu hi fa hN hp) dX4_shadeOf_14 rfl mv_X4_53 (by first | exact tw_o | exact tw_c | exact tw_i | exact tw_p | exact tw_d) rfl ⟨(Nat.le_of_ble_eq_true rfl), (Nat.le_of_ble_eq_true rfl)⟩ ⟨(Nat.le_of_ble_eq_true rfl), (Nat.le_of_ble_eq_true rfl)⟩ (Nat.le_of_ble_eq_true rfl) ?_
    refine j_aload_n dX4_shadeOf_17 rfl rfl ?_
    refine j_getf dX4_shadeOf_18 4 5 rfl (Nat.le_of_ble_eq_true rfl) fl_X4_24 in_4 (by first | exact tw_o | exact tw_c | exact tw_i | exact tw_p | exact tw_d) rfl ?_
    refine j_idiv dX4_shadeOf_21 (nI_ne0 (by omega) (by omega)) ?_
    refine j_bipush (nI 9) dX4_shadeOf_22 rfl ?_
    refine j_min dX4_shadeOf_24 mm_X4_57 (Nat.le_of_ble_eq_true rfl) (Nat.le_of_ble_eq_true rfl) (Nat.le_of_ble_eq_true rfl) (Nat.le_of_ble_eq_true rfl) ?_
    exact j_iret rfl dX4_shadeOf_27 rfl rfl (Nat.le_of_ble_eq_true rfl) (Nat.le_of_ble_eq_true rfl)
  · exfalso; omega
end T1


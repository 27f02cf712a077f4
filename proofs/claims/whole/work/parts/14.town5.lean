/-! THE TOWN: incomes, paying of all, a quarter; copies; one settles in -/
section T5
variable (G : GG) (z : Nat) (σ : AH) (t : Nat) (ca inc pa de : Nat → Int32) (pe un ra qu hi fa : Int32)
theorem c_incomesCome {N : Nat} (seed : Int32) (hN : N ≤ 7) (hinc : ∀ p, p < 7 → 0 ≤ inc p ∧ ¬ (inc p + nI 1).toInt64 = 0) : Ct G yX4_incomesCome cX4_incomesCome 5 none 2 0 0 z (tw σ t ca inc pa de (nI N) un ra qu hi fa) [.ref t, .int seed] none z (tw σ t (incC seed inc ca N) inc pa de (nI N) un ra qu hi fa) := by
  refine Ct.ofJ RX4 rfl [some (.ref t), some (.int seed), none, none, none] rfl (by decide) (by simp [Value.category]) ?_
  refine j_iload_n dX4_incomesCome_0 rfl rfl ?_
  refine j_i2l dX4_incomesCome_1 ?_
  refine j_lstore_n dX4_incomesCome_2 rfl (Nat.le_of_ble_eq_true rfl) rfl ?_
  refine j_iconst (nI 0) dX4_incomesCome_3 rfl ?_
  refine j_istore dX4_incomesCome_4 (Nat.le_of_ble_eq_true rfl) rfl ?_
  skip
  suffices H : ∀ (ki i : Nat), i ≤ N → N < i + ki → J G RX4 cX4_incomesCome 5 none (TQ G 2 0 0 none z (tw σ t (incC seed inc ca N) inc pa de (nI N) un ra qu hi fa)) z (tw σ t (incC seed inc ca i) inc pa de (nI N) un ra qu hi fa) 0 0 6 [some (.ref t), some (.int seed), some (.long (drawX seed i)), none, some (.int (nI i))] [] from H (N + 1) 0 (by omega) (by omega)
  intro ki
  induction ki with
  | zero => intro i h1i h2i; exact absurd h2i (by omega)
  | succ ki ih =>
    intro i h1i h2i
    have e1 : incC seed inc ca (i + 1) = upd (incC seed inc ca i) i (incC seed inc ca i i + (if seed = 0 then inc i else drawnI (drawX seed (i + 1)) (inc i))) := rfl
    refine j_iload dX4_incomesCome_6 rfl ?_
    refine j_aload_n dX4_incomesCome_8 rfl rfl ?_
    refine j_getf dX4_incomesCome_9 4 4 rfl (Nat.le_of_ble_eq_true rfl) fl_X4_34 in_4 (by first | exact tw_o | exact tw_c | exact tw_i | exact tw_p | exact tw_d) rfl ?_
    refine j_icmp_geN 66 dX4_incomesCome_12 (by decide) (by omega) (by omega) (fun b12 => ?_) (fun b12 => ?_)
    · obtain rfl : i = N := by omega
      exact j_vret rfl dX4_incomesCome_66 rfl (Nat.le_of_ble_eq_true rfl) (Nat.le_of_ble_eq_true rfl)
    · refine j_lload_n dX4_incomesCome_15 rfl rfl ?_
      refine j_ldc2 (16807) dX4_incomesCome_16 kl_X4_97 ?_
      refine j_lmul dX4_incomesCome_19 ?_
      refine j_ldc2 (2147483647) dX4_incomesCome_20 kl_X4_99 ?_
      refine j_lrem dX4_incomesCome_23 (by decide) ?_
      refine j_lstore_n dX4_incomesCome_24 rfl (Nat.le_of_ble_eq_true rfl) rfl ?_
      refine j_aload_n dX4_incomesCome_25 rfl rfl ?_
      refine j_getf dX4_incomesCome_26 4 0 rfl (Nat.le_of_ble_eq_true rfl) fl_X4_9 in_4 (by first | exact tw_o | exact tw_c | exact tw_i | exact tw_p | exact tw_d) rfl ?_
      refine j_iload dX4_incomesCome_29 rfl ?_
      refine j_dup2 dX4_incomesCome_31 rfl rfl ?_
      refine j_iald dX4_incomesCome_32 (by first | exact tw_o | exact tw_c | exact tw_i | exact tw_p | exact tw_d) rfl (by omega) (by decide) ?_
      refine j_iload_n dX4_incomesCome_33 rfl rfl ?_
      refine j_if_ne 47 dX4_incomesCome_34 (by decide) (fun b34 => ?_) (fun b34 => ?_)
      · refine j_lload_n dX4_incomesCome_47 rfl rfl ?_
        refine j_aload_n dX4_incomesCome_48 rfl rfl ?_
        refine j_getf dX4_incomesCome_49 4 1 rfl (Nat.le_of_ble_eq_true rfl) fl_X4_15 in_4 (by first | exact tw_o | exact tw_c | exact tw_i | exact tw_p | exact tw_d) rfl ?_
        refine j_iload dX4_incomesCome_52 rfl ?_
        refine j_iald dX4_incomesCome_54 (by first | exact tw_o | exact tw_c | exact tw_i | exact tw_p | exact tw_d) rfl (by omega) (by decide) ?_
        refine j_callS (c_drawn G z _ (drawX seed (i + 1)) (inc i) (hinc i (by omega)).1 (hinc i (by omega)).2) dX4_incomesCome_55 rfl ms_X4_101 ⟨(Nat.le_of_ble_eq_true rfl), (Nat.le_of_ble_eq_true rfl)⟩ ⟨(Nat.le_of_ble_eq_true rfl), (Nat.le_of_ble_eq_true rfl)⟩ (Nat.le_of_ble_eq_true rfl) ?_
        first | refine j_iaddN dX4_incomesCome_58 ?_ | refine j_iadd dX4_incomesCome_58 ?_
        refine j_iast dX4_incomesCome_59 (by first | exact tw_o | exact tw_c | exact tw_i | exact tw_p | exact tw_d) rfl (by omega) (by decide) _ (by first | exact tws_o | exact tws_c | exact tws_i | exact tws_p | exact tws_d) ?_
        first | refine j_iincN dX4_incomesCome_60 rfl (Nat.le_of_ble_eq_true rfl) rfl ?_ | refine j_iinc _ dX4_incomesCome_60 rfl rfl (Nat.le_of_ble_eq_true rfl) rfl ?_
        refine j_goto 6 dX4_incomesCome_63 (by decide) ?_
        have ih2 := ih (i + 1) (by omega) (by omega)
        first | (rw [e1, if_pos b34] at ih2; exact ih2) | (rw [e1, if_neg b34] at ih2; exact ih2)
      · refine j_aload_n dX4_incomesCome_37 rfl rfl ?_
        refine j_getf dX4_incomesCome_38 4 1 rfl (Nat.le_of_ble_eq_true rfl) fl_X4_15 in_4 (by first | exact tw_o | exact tw_c | exact tw_i | exact tw_p | exact tw_d) rfl ?_
        refine j_iload dX4_incomesCome_41 rfl ?_
        refine j_iald dX4_incomesCome_43 (by first | exact tw_o | exact tw_c | exact tw_i | exact tw_p | exact tw_d) rfl (by omega) (by decide) ?_
        refine j_goto 58 dX4_incomesCome_44 (by decide) ?_
        first | refine j_iaddN dX4_incomesCome_58 ?_ | refine j_iadd dX4_incomesCome_58 ?_
        refine j_iast dX4_incomesCome_59 (by first | exact tw_o | exact tw_c | exact tw_i | exact tw_p | exact tw_d) rfl (by omega) (by decide) _ (by first | exact tws_o | exact tws_c | exact tws_i | exact tws_p | exact tws_d) ?_
        first | refine j_iincN dX4_incomesCome_60 rfl (Nat.le_of_ble_eq_true rfl) rfl ?_ | refine j_iinc _ dX4_incomesCome_60 rfl rfl (Nat.le_of_ble_eq_true rfl) rfl ?_
        refine j_goto 6 dX4_incomesCome_63 (by decide) ?_
        have ih2 := ih (i + 1) (by omega) (by omega)
        first | (rw [e1, if_pos b34] at ih2; exact ih2) | (rw [e1, if_neg b34] at ih2; exact ih2)
theorem c_allSettle {N : Nat} (hN : N ≤ 7) : Ct G yX4_allSettle cX4_allSettle 4 none 4 0 0 z (tw σ t ca inc pa de (nI N) un ra qu hi fa) [.ref t] none z (tw σ t (alS N ca de fa N).1 inc pa (alS N ca de fa N).2.1 (nI N) un ra qu hi (alS N ca de fa N).2.2) := by
  refine Ct.ofJ RX4 rfl [some (.ref t), none, none, none] rfl (by decide) (by simp [Value.category]) ?_
  refine j_iconst (nI 0) dX4_allSettle_0 rfl ?_
  refine j_istore_n dX4_allSettle_1 rfl (Nat.le_of_ble_eq_true rfl) rfl ?_
  suffices H : ∀ (k i : Nat) (o2 o3 : Option Value), (lok [some (.ref t), some (.int (nI i)), o2, o3] 3 = true) → i ≤ N → N < i + k → J G RX4 cX4_allSettle 4 none (TQ G 4 0 0 none z (tw σ t (alS N ca de fa N).1 inc pa (alS N ca de fa N).2.1 (nI N) un ra qu hi (alS N ca de fa N).2.2)) z (tw σ t (alS N ca de fa i).1 inc pa (alS N ca de fa i).2.1 (nI N) un ra qu hi (alS N ca de fa i).2.2) 0 0 2 [some (.ref t), some (.int (nI i)), o2, o3] [] from H (N + 1) 0 none none rfl (by omega) (by omega)
  intro k
  induction k with
  | zero => intro i o2 o3 ho h1 h2; exact absurd h2 (by omega)
  | succ k ih =>
    intro i o2 o3 ho h1 h2
    have ih2 := fun o2 o3 ho h h9 => ih (i + 1) o2 o3 ho h h9
    simp only [alS] at ih2
    refine j_iload_n dX4_allSettle_2 rfl rfl ?_
    refine j_aload_n dX4_allSettle_3 rfl rfl ?_
    refine j_getf dX4_allSettle_4 4 4 rfl (Nat.le_of_ble_eq_true rfl) fl_X4_34 in_4 (by first | exact tw_o | exact tw_c | exact tw_i | exact tw_p | exact tw_d) rfl ?_
    refine j_icmp_geN 86 dX4_allSettle_7 (by decide) (by omega) (by omega) (fun b7 => ?_) (fun b7 => ?_)
    · obtain rfl : i = N := by omega
      exact j_vret rfl dX4_allSettle_86 rfl (Nat.le_of_ble_eq_true rfl) (Nat.le_of_ble_eq_true rfl)
    · refine j_aload_n dX4_allSettle_10 rfl rfl ?_
      refine j_iload_n dX4_allSettle_11 rfl rfl ?_
      refine j_callV (c_owedBy G z σ t _ inc pa _ un ra qu hi _ hN (by omega)) dX4_allSettle_12 rfl mv_X4_53 (by first | exact tw_o | exact tw_c | exact tw_i | exact tw_p | exact tw_d) rfl ⟨(Nat.le_of_ble_eq_true rfl), (Nat.le_of_ble_eq_true rfl)⟩ ⟨(Nat.le_of_ble_eq_true rfl), (Nat.le_of_ble_eq_true rfl)⟩ (Nat.le_of_ble_eq_true rfl) ?_
      refine j_if_le 22 dX4_allSettle_15 (by decide) (fun b15 => ?_) (fun b15 => ?_)
      · refine j_iconst (nI 0) dX4_allSettle_22 rfl ?_
        refine j_istore_n dX4_allSettle_23 rfl (Nat.le_of_ble_eq_true rfl) rfl ?_
        refine j_aload_n dX4_allSettle_24 rfl rfl ?_
        refine j_iload_n dX4_allSettle_25 rfl rfl ?_
        refine j_callV (c_settle G z σ t _ inc pa _ un ra qu hi _ hN (by omega)) dX4_allSettle_26 rfl mv_X4_78 (by first | exact tw_o | exact tw_c | exact tw_i | exact tw_p | exact tw_d) rfl ⟨(Nat.le_of_ble_eq_true rfl), (Nat.le_of_ble_eq_true rfl)⟩ ⟨(Nat.le_of_ble_eq_true rfl), (Nat.le_of_ble_eq_true rfl)⟩ (Nat.le_of_ble_eq_true rfl) ?_
        refine j_if_le 36 dX4_allSettle_29 (by decide) (fun b29 => ?_) (fun b29 => ?_)
        · refine j_iconst (nI 0) dX4_allSettle_36 rfl ?_
          refine j_istore_n dX4_allSettle_37 rfl (Nat.le_of_ble_eq_true rfl) rfl ?_
          refine j_iload_n dX4_allSettle_38 rfl rfl ?_
          refine j_if_eq 58 dX4_allSettle_39 (by decide) (fun _ => ?_) (fun h => absurd rfl h)
          refine j_aload_n dX4_allSettle_58 rfl rfl ?_
          refine j_iload_n dX4_allSettle_59 rfl rfl ?_
          refine j_callV (c_owedBy G z σ t _ inc pa _ un ra qu hi _ hN (by omega)) dX4_allSettle_60 rfl mv_X4_53 (by first | exact tw_o | exact tw_c | exact tw_i | exact tw_p | exact tw_d) rfl ⟨(Nat.le_of_ble_eq_true rfl), (Nat.le_of_ble_eq_true rfl)⟩ ⟨(Nat.le_of_ble_eq_true rfl), (Nat.le_of_ble_eq_true rfl)⟩ (Nat.le_of_ble_eq_true rfl) ?_
          refine j_if_ne 80 dX4_allSettle_63 (by decide) (fun b63 => ?_) (fun b63 => ?_)
          · first | refine j_iincN dX4_allSettle_80 rfl (Nat.le_of_ble_eq_true rfl) rfl ?_ | refine j_iinc _ dX4_allSettle_80 rfl rfl (Nat.le_of_ble_eq_true rfl) rfl ?_
            refine j_goto 2 dX4_allSettle_83 (by decide) ?_
            first | (rw [if_pos (show dsum _ N i = 0 from b63)] at ih2) | skip
            first
              | (simp only [if_neg (show ¬ dsum _ N i = 0 from b63), if_pos (show 0 < dsum _ N i ∧ ¬ 0 < (stl i _ _ N).2.2 from ⟨Int32.not_le.mp b15, Int32.not_lt.mpr b29⟩)] at ih2; exact ih2 _ _ rfl (by omega) (by omega))
              | (simp only [if_neg (show ¬ dsum _ N i = 0 from b63), if_neg (show ¬ (0 < dsum _ N i ∧ ¬ 0 < (stl i _ _ N).2.2) from fun q => q.2 (Int32.not_le.mp b29))] at ih2; exact ih2 _ _ rfl (by omega) (by omega))
              | (simp only [if_neg (show ¬ dsum _ N i = 0 from b63), if_neg (show ¬ (0 < dsum _ N i ∧ ¬ 0 < (stl i _ _ N).2.2) from fun q => absurd q.1 (Int32.not_lt.mpr b15))] at ih2; exact ih2 _ _ rfl (by omega) (by omega))
              | (simp only [if_pos (show dsum _ N i = 0 from b63), if_pos (show 0 < dsum _ N i ∧ ¬ 0 < (stl i _ _ N).2.2 from ⟨Int32.not_le.mp b15, Int32.not_lt.mpr b29⟩)] at ih2; exact ih2 _ _ rfl (by omega) (by omega))
              | (simp only [if_pos (show dsum _ N i = 0 from b63), if_neg (show ¬ (0 < dsum _ N i ∧ ¬ 0 < (stl i _ _ N).2.2) from fun q => q.2 (Int32.not_le.mp b29))] at ih2; exact ih2 _ _ rfl (by omega) (by omega))
              | (simp only [if_pos (show dsum _ N i = 0 from b63), if_neg (show ¬ (0 < dsum _ N i ∧ ¬ 0 < (stl i _ _ N).2.2) from fun q => absurd q.1 (Int32.not_lt.mpr b15))] at ih2; exact ih2 _ _ rfl (by omega) (by omega))
          · refine j_aload_n dX4_allSettle_66 rfl rfl ?_
            refine j_dup dX4_allSettle_67 rfl ?_
            refine j_getf dX4_allSettle_68 4 9 rfl (Nat.le_of_ble_eq_true rfl) fl_X4_46 in_4 (by first | exact tw_o | exact tw_c | exact tw_i | exact tw_p | exact tw_d) rfl ?_
            refine j_iconst (nI 1) dX4_allSettle_71 rfl ?_
            refine j_iload_n dX4_allSettle_72 rfl rfl ?_
            refine j_ishl dX4_allSettle_73 ?_
            refine j_iconst (-1) dX4_allSettle_74 rfl ?_
            refine j_ixor dX4_allSettle_75 ?_
            refine j_iand dX4_allSettle_76 ?_
            refine j_putf dX4_allSettle_77 4 9 rfl (Nat.le_of_ble_eq_true rfl) fl_X4_46 in_4 tyX4 tyX4_ok nmX4 rfl rfl (by first | exact tw_o | exact tw_c | exact tw_i | exact tw_p | exact tw_d) (Nat.le_of_ble_eq_true rfl) _ (by first | exact tws_o | exact tws_c | exact tws_i | exact tws_p | exact tws_d) ?_
            first | refine j_iincN dX4_allSettle_80 rfl (Nat.le_of_ble_eq_true rfl) rfl ?_ | refine j_iinc _ dX4_allSettle_80 rfl rfl (Nat.le_of_ble_eq_true rfl) rfl ?_
            refine j_goto 2 dX4_allSettle_83 (by decide) ?_
            first | (rw [if_pos (show dsum _ N i = 0 from b63)] at ih2) | skip
            first
              | (simp only [if_neg (show ¬ dsum _ N i = 0 from b63), if_pos (show 0 < dsum _ N i ∧ ¬ 0 < (stl i _ _ N).2.2 from ⟨Int32.not_le.mp b15, Int32.not_lt.mpr b29⟩)] at ih2; exact ih2 _ _ rfl (by omega) (by omega))
              | (simp only [if_neg (show ¬ dsum _ N i = 0 from b63), if_neg (show ¬ (0 < dsum _ N i ∧ ¬ 0 < (stl i _ _ N).2.2) from fun q => q.2 (Int32.not_le.mp b29))] at ih2; exact ih2 _ _ rfl (by omega) (by omega))
              | (simp only [if_neg (show ¬ dsum _ N i = 0 from b63), if_neg (show ¬ (0 < dsum _ N i ∧ ¬ 0 < (stl i _ _ N).2.2) from fun q => absurd q.1 (Int32.not_lt.mpr b15))] at ih2; exact ih2 _ _ rfl (by omega) (by omega))
              | (simp only [if_pos (show dsum _ N i = 0 from b63), if_pos (show 0 < dsum _ N i ∧ ¬ 0 < (stl i _ _ N).2.2 from ⟨Int32.not_le.mp b15, Int32.not_lt.mpr b29⟩)] at ih2; exact ih2 _ _ rfl (by omega) (by omega))
              | (simp only [if_pos (show dsum _ N i = 0 from b63), if_neg (show ¬ (0 < dsum _ N i ∧ ¬ 0 < (stl i _ _ N).2.2) from fun q => q.2 (Int32.not_le.mp b29))] at ih2; exact ih2 _ _ rfl (by omega) (by omega))
              | (simp only [if_pos (show dsum _ N i = 0 from b63), if_neg (show ¬ (0 < dsum _ N i ∧ ¬ 0 < (stl i _ _ N).2.2) from fun q => absurd q.1 (Int32.not_lt.mpr b15))] at ih2; exact ih2 _ _ rfl (by omega) (by omega))
        · refine j_iconst (nI 1) dX4_allSettle_32 rfl ?_
          refine j_goto 37 dX4_allSettle_33 (by decide) ?_
          refine j_istore_n dX4_allSettle_37 rfl (Nat.le_of_ble_eq_true rfl) rfl ?_
          refine j_iload_n dX4_allSettle_38 rfl rfl ?_
          refine j_if_eq 58 dX4_allSettle_39 (by decide) (fun _ => ?_) (fun h => absurd rfl h)
          refine j_aload_n dX4_allSettle_58 rfl rfl ?_
          refine j_iload_n dX4_allSettle_59 rfl rfl ?_
          refine j_callV (c_owedBy G z σ t _ inc pa _ un ra qu hi _ hN (by omega)) dX4_allSettle_60 rfl mv_X4_53 (by first | exact tw_o | exact tw_c | exact tw_i | exact tw_p | exact tw_d) rfl ⟨(Nat.le_of_ble_eq_true rfl), (Nat.le_of_ble_eq_true rfl)⟩ ⟨(Nat.le_of_ble_eq_true rfl), (Nat.le_of_ble_eq_true rfl)⟩ (Nat.le_of_ble_eq_true rfl) ?_
          refine j_if_ne 80 dX4_allSettle_63 (by decide) (fun b63 => ?_) (fun b63 => ?_)
          · first | refine j_iincN dX4_allSettle_80 rfl (Nat.le_of_ble_eq_true rfl) rfl ?_ | refine j_iinc _ dX4_allSettle_80 rfl rfl (Nat.le_of_ble_eq_true rfl) rfl ?_
            refine j_goto 2 dX4_allSettle_83 (by decide) ?_
            first | (rw [if_pos (show dsum _ N i = 0 from b63)] at ih2) | skip
            first
              | (simp only [if_neg (show ¬ dsum _ N i = 0 from b63), if_pos (show 0 < dsum _ N i ∧ ¬ 0 < (stl i _ _ N).2.2 from ⟨Int32.not_le.mp b15, Int32.not_lt.mpr b29⟩)] at ih2; exact ih2 _ _ rfl (by omega) (by omega))
              | (simp only [if_neg (show ¬ dsum _ N i = 0 from b63), if_neg (show ¬ (0 < dsum _ N i ∧ ¬ 0 < (stl i _ _ N).2.2) from fun q => q.2 (Int32.not_le.mp b29))] at ih2; exact ih2 _ _ rfl (by omega) (by omega))
              | (simp only [if_neg (show ¬ dsum _ N i = 0 from b63), if_neg (show ¬ (0 < dsum _ N i ∧ ¬ 0 < (stl i _ _ N).2.2) from fun q => absurd q.1 (Int32.not_lt.mpr b15))] at ih2; exact ih2 _ _ rfl (by omega) (by omega))
              | (simp only [if_pos (show dsum _ N i = 0 from b63), if_pos (show 0 < dsum _ N i ∧ ¬ 0 < (stl i _ _ N).2.2 from ⟨Int32.not_le.mp b15, Int32.not_lt.mpr b29⟩)] at ih2; exact ih2 _ _ rfl (by omega) (by omega))
              | (simp only [if_pos (show dsum _ N i = 0 from b63), if_neg (show ¬ (0 < dsum _ N i ∧ ¬ 0 < (stl i _ _ N).2.2) from fun q => q.2 (Int32.not_le.mp b29))] at ih2; exact ih2 _ _ rfl (by omega) (by omega))
              | (simp only [if_pos (show dsum _ N i = 0 from b63), if_neg (show ¬ (0 < dsum _ N i ∧ ¬ 0 < (stl i _ _ N).2.2) from fun q => absurd q.1 (Int32.not_lt.mpr b15))] at ih2; exact ih2 _ _ rfl (by omega) (by omega))
          · refine j_aload_n dX4_allSettle_66 rfl rfl ?_
            refine j_dup dX4_allSettle_67 rfl ?_
            refine j_getf dX4_allSettle_68 4 9 rfl (Nat.le_of_ble_eq_true rfl) fl_X4_46 in_4 (by first | exact tw_o | exact tw_c | exact tw_i | exact tw_p | exact tw_d) rfl ?_
            refine j_iconst (nI 1) dX4_allSettle_71 rfl ?_
            refine j_iload_n dX4_allSettle_72 rfl rfl ?_
            refine j_ishl dX4_allSettle_73 ?_
            refine j_iconst (-1) dX4_allSettle_74 rfl ?_
            refine j_ixor dX4_allSettle_75 ?_
            refine j_iand dX4_allSettle_76 ?_
            refine j_putf dX4_allSettle_77 4 9 rfl (Nat.le_of_ble_eq_true rfl) fl_X4_46 in_4 tyX4 tyX4_ok nmX4 rfl rfl (by first | exact tw_o | exact tw_c | exact tw_i | exact tw_p | exact tw_d) (Nat.le_of_ble_eq_true rfl) _ (by first | exact tws_o | exact tws_c | exact tws_i | exact tws_p | exact tws_d) ?_
            first | refine j_iincN dX4_allSettle_80 rfl (Nat.le_of_ble_eq_true rfl) rfl ?_ | refine j_iinc _ dX4_allSettle_80 rfl rfl (Nat.le_of_ble_eq_true rfl) rfl ?_
            refine j_goto 2 dX4_allSettle_83 (by decide) ?_
            first | (rw [if_pos (show dsum _ N i = 0 from b63)] at ih2) | skip
            first
              | (simp only [if_neg (show ¬ dsum _ N i = 0 from b63), if_pos (show 0 < dsum _ N i ∧ ¬ 0 < (stl i _ _ N).2.2 from ⟨Int32.not_le.mp b15, Int32.not_lt.mpr b29⟩)] at ih2; exact ih2 _ _ rfl (by omega) (by omega))
              | (simp only [if_neg (show ¬ dsum _ N i = 0 from b63), if_neg (show ¬ (0 < dsum _ N i ∧ ¬ 0 < (stl i _ _ N).2.2) from fun q => q.2 (Int32.not_le.mp b29))] at ih2; exact ih2 _ _ rfl (by omega) (by omega))
              | (simp only [if_neg (show ¬ dsum _ N i = 0 from b63), if_neg (show ¬ (0 < dsum _ N i ∧ ¬ 0 < (stl i _ _ N).2.2) from fun q => absurd q.1 (Int32.not_lt.mpr b15))] at ih2; exact ih2 _ _ rfl (by omega) (by omega))
              | (simp only [if_pos (show dsum _ N i = 0 from b63), if_pos (show 0 < dsum _ N i ∧ ¬ 0 < (stl i _ _ N).2.2 from ⟨Int32.not_le.mp b15, Int32.not_lt.mpr b29⟩)] at ih2; exact ih2 _ _ rfl (by omega) (by omega))
              | (simp only [if_pos (show dsum _ N i = 0 from b63), if_neg (show ¬ (0 < dsum _ N i ∧ ¬ 0 < (stl i _ _ N).2.2) from fun q => q.2 (Int32.not_le.mp b29))] at ih2; exact ih2 _ _ rfl (by omega) (by omega))
              | (simp only [if_pos (show dsum _ N i = 0 from b63), if_neg (show ¬ (0 < dsum _ N i ∧ ¬ 0 < (stl i _ _ N).2.2) from fun q => absurd q.1 (Int32.not_lt.mpr b15))] at ih2; exact ih2 _ _ rfl (by omega) (by omega))
      · refine j_iconst (nI 1) dX4_allSettle_18 rfl ?_
        refine j_goto 23 dX4_allSettle_19 (by decide) ?_
        refine j_istore_n dX4_allSettle_23 rfl (Nat.le_of_ble_eq_true rfl) rfl ?_
        refine j_aload_n dX4_allSettle_24 rfl rfl ?_
        refine j_iload_n dX4_allSettle_25 rfl rfl ?_
        refine j_callV (c_settle G z σ t _ inc pa _ un ra qu hi _ hN (by omega)) dX4_allSettle_26 rfl mv_X4_78 (by first | exact tw_o | exact tw_c | exact tw_i | exact tw_p | exact tw_d) rfl ⟨(Nat.le_of_ble_eq_true rfl), (Nat.le_of_ble_eq_true rfl)⟩ ⟨(Nat.le_of_ble_eq_true rfl), (Nat.le_of_ble_eq_true rfl)⟩ (Nat.le_of_ble_eq_true rfl) ?_
        refine j_if_le 36 dX4_allSettle_29 (by decide) (fun b29 => ?_) (fun b29 => ?_)
        · refine j_iconst (nI 0) dX4_allSettle_36 rfl ?_
          refine j_istore_n dX4_allSettle_37 rfl (Nat.le_of_ble_eq_true rfl) rfl ?_
          refine j_iload_n dX4_allSettle_38 rfl rfl ?_
          refine j_if_eq 58 dX4_allSettle_39 (by decide) (fun h => absurd h (by decide)) (fun _ => ?_)
          refine j_iload_n dX4_allSettle_42 rfl rfl ?_
          refine j_if_ne 58 dX4_allSettle_43 (by decide) (fun h => absurd rfl h) (fun _ => ?_)
          refine j_aload_n dX4_allSettle_46 rfl rfl ?_
          refine j_dup dX4_allSettle_47 rfl ?_
          refine j_getf dX4_allSettle_48 4 9 rfl (Nat.le_of_ble_eq_true rfl) fl_X4_46 in_4 (by first | exact tw_o | exact tw_c | exact tw_i | exact tw_p | exact tw_d) rfl ?_
          refine j_iconst (nI 1) dX4_allSettle_51 rfl ?_
          refine j_iload_n dX4_allSettle_52 rfl rfl ?_
          refine j_ishl dX4_allSettle_53 ?_
          refine j_ior dX4_allSettle_54 ?_
          refine j_putf dX4_allSettle_55 4 9 rfl (Nat.le_of_ble_eq_true rfl) fl_X4_46 in_4 tyX4 tyX4_ok nmX4 rfl rfl (by first | exact tw_o | exact tw_c | exact tw_i | exact tw_p | exact tw_d) (Nat.le_of_ble_eq_true rfl) _ (by first | exact tws_o | exact tws_c | exact tws_i | exact tws_p | exact tws_d) ?_
          refine j_aload_n dX4_allSettle_58 rfl rfl ?_
          refine j_iload_n dX4_allSettle_59 rfl rfl ?_
          refine j_callV (c_owedBy G z σ t _ inc pa _ un ra qu hi _ hN (by omega)) dX4_allSettle_60 rfl mv_X4_53 (by first | exact tw_o | exact tw_c | exact tw_i | exact tw_p | exact tw_d) rfl ⟨(Nat.le_of_ble_eq_true rfl), (Nat.le_of_ble_eq_true rfl)⟩ ⟨(Nat.le_of_ble_eq_true rfl), (Nat.le_of_ble_eq_true rfl)⟩ (Nat.le_of_ble_eq_true rfl) ?_
          refine j_if_ne 80 dX4_allSettle_63 (by decide) (fun b63 => ?_) (fun b63 => ?_)
          · first | refine j_iincN dX4_allSettle_80 rfl (Nat.le_of_ble_eq_true rfl) rfl ?_ | refine j_iinc _ dX4_allSettle_80 rfl rfl (Nat.le_of_ble_eq_true rfl) rfl ?_
            refine j_goto 2 dX4_allSettle_83 (by decide) ?_
            first | (rw [if_pos (show dsum _ N i = 0 from b63)] at ih2) | skip
            first
              | (simp only [if_neg (show ¬ dsum _ N i = 0 from b63), if_pos (show 0 < dsum _ N i ∧ ¬ 0 < (stl i _ _ N).2.2 from ⟨Int32.not_le.mp b15, Int32.not_lt.mpr b29⟩)] at ih2; exact ih2 _ _ rfl (by omega) (by omega))
              | (simp only [if_neg (show ¬ dsum _ N i = 0 from b63), if_neg (show ¬ (0 < dsum _ N i ∧ ¬ 0 < (stl i _ _ N).2.2) from fun q => q.2 (Int32.not_le.mp b29))] at ih2; exact ih2 _ _ rfl (by omega) (by omega))
              | (simp only [if_neg (show ¬ dsum _ N i = 0 from b63), if_neg (show ¬ (0 < dsum _ N i ∧ ¬ 0 < (stl i _ _ N).2.2) from fun q => absurd q.1 (Int32.not_lt.mpr b15))] at ih2; exact ih2 _ _ rfl (by omega) (by omega))
              | (simp only [if_pos (show dsum _ N i = 0 from b63), if_pos (show 0 < dsum _ N i ∧ ¬ 0 < (stl i _ _ N).2.2 from ⟨Int32.not_le.mp b15, Int32.not_lt.mpr b29⟩)] at ih2; exact ih2 _ _ rfl (by omega) (by omega))
              | (simp only [if_pos (show dsum _ N i = 0 from b63), if_neg (show ¬ (0 < dsum _ N i ∧ ¬ 0 < (stl i _ _ N).2.2) from fun q => q.2 (Int32.not_le.mp b29))] at ih2; exact ih2 _ _ rfl (by omega) (by omega))
              | (simp only [if_pos (show dsum _ N i = 0 from b63), if_neg (show ¬ (0 < dsum _ N i ∧ ¬ 0 < (stl i _ _ N).2.2) from fun q => absurd q.1 (Int32.not_lt.mpr b15))] at ih2; exact ih2 _ _ rfl (by omega) (by omega))
          · refine j_aload_n dX4_allSettle_66 rfl rfl ?_
            refine j_dup dX4_allSettle_67 rfl ?_
            refine j_getf dX4_allSettle_68 4 9 rfl (Nat.le_of_ble_eq_true rfl) fl_X4_46 in_4 (by first | exact tw_o | exact tw_c | exact tw_i | exact tw_p | exact tw_d) rfl ?_
            refine j_iconst (nI 1) dX4_allSettle_71 rfl ?_
            refine j_iload_n dX4_allSettle_72 rfl rfl ?_
            refine j_ishl dX4_allSettle_73 ?_
            refine j_iconst (-1) dX4_allSettle_74 rfl ?_
            refine j_ixor dX4_allSettle_75 ?_
            refine j_iand dX4_allSettle_76 ?_
            refine j_putf dX4_allSettle_77 4 9 rfl (Nat.le_of_ble_eq_true rfl) fl_X4_46 in_4 tyX4 tyX4_ok nmX4 rfl rfl (by first | exact tw_o | exact tw_c | exact tw_i | exact tw_p | exact tw_d) (Nat.le_of_ble_eq_true rfl) _ (by first | exact tws_o | exact tws_c | exact tws_i | exact tws_p | exact tws_d) ?_
            first | refine j_iincN dX4_allSettle_80 rfl (Nat.le_of_ble_eq_true rfl) rfl ?_ | refine j_iinc _ dX4_allSettle_80 rfl rfl (Nat.le_of_ble_eq_true rfl) rfl ?_
            refine j_goto 2 dX4_allSettle_83 (by decide) ?_
            first | (rw [if_pos (show dsum _ N i = 0 from b63)] at ih2) | skip
            first
              | (simp only [if_neg (show ¬ dsum _ N i = 0 from b63), if_pos (show 0 < dsum _ N i ∧ ¬ 0 < (stl i _ _ N).2.2 from ⟨Int32.not_le.mp b15, Int32.not_lt.mpr b29⟩)] at ih2; exact ih2 _ _ rfl (by omega) (by omega))
              | (simp only [if_neg (show ¬ dsum _ N i = 0 from b63), if_neg (show ¬ (0 < dsum _ N i ∧ ¬ 0 < (stl i _ _ N).2.2) from fun q => q.2 (Int32.not_le.mp b29))] at ih2; exact ih2 _ _ rfl (by omega) (by omega))
              | (simp only [if_neg (show ¬ dsum _ N i = 0 from b63), if_neg (show ¬ (0 < dsum _ N i ∧ ¬ 0 < (stl i _ _ N).2.2) from fun q => absurd q.1 (Int32.not_lt.mpr b15))] at ih2; exact ih2 _ _ rfl (by omega) (by omega))
              | (simp only [if_pos (show dsum _ N i = 0 from b63), if_pos (show 0 < dsum _ N i ∧ ¬ 0 < (stl i _ _ N).2.2 from ⟨Int32.not_le.mp b15, Int32.not_lt.mpr b29⟩)] at ih2; exact ih2 _ _ rfl (by omega) (by omega))
              | (simp only [if_pos (show dsum _ N i = 0 from b63), if_neg (show ¬ (0 < dsum _ N i ∧ ¬ 0 < (stl i _ _ N).2.2) from fun q => q.2 (Int32.not_le.mp b29))] at ih2; exact ih2 _ _ rfl (by omega) (by omega))
              | (simp only [if_pos (show dsum _ N i = 0 from b63), if_neg (show ¬ (0 < dsum _ N i ∧ ¬ 0 < (stl i _ _ N).2.2) from fun q => absurd q.1 (Int32.not_lt.mpr b15))] at ih2; exact ih2 _ _ rfl (by omega) (by omega))
        · refine j_iconst (nI 1) dX4_allSettle_32 rfl ?_
          refine j_goto 37 dX4_allSettle_33 (by decide) ?_
          refine j_istore_n dX4_allSettle_37 rfl (Nat.le_of_ble_eq_true rfl) rfl ?_
          refine j_iload_n dX4_allSettle_38 rfl rfl ?_
          refine j_if_eq 58 dX4_allSettle_39 (by decide) (fun h => absurd h (by decide)) (fun _ => ?_)
          refine j_iload_n dX4_allSettle_42 rfl rfl ?_
          refine j_if_ne 58 dX4_allSettle_43 (by decide) (fun _ => ?_) (fun h => absurd h (by decide))
          refine j_aload_n dX4_allSettle_58 rfl rfl ?_
          refine j_iload_n dX4_allSettle_59 rfl rfl ?_
          refine j_callV (c_owedBy G z σ t _ inc pa _ un ra qu hi _ hN (by omega)) dX4_allSettle_60 rfl mv_X4_53 (by first | exact tw_o | exact tw_c | exact tw_i | exact tw_p | exact tw_d) rfl ⟨(Nat.le_of_ble_eq_true rfl), (Nat.le_of_ble_eq_true rfl)⟩ ⟨(Nat.le_of_ble_eq_true rfl), (Nat.le_of_ble_eq_true rfl)⟩ (Nat.le_of_ble_eq_true rfl) ?_
          refine j_if_ne 80 dX4_allSettle_63 (by decide) (fun b63 => ?_) (fun b63 => ?_)
          · first | refine j_iincN dX4_allSettle_80 rfl (Nat.le_of_ble_eq_true rfl) rfl ?_ | refine j_iinc _ dX4_allSettle_80 rfl rfl (Nat.le_of_ble_eq_true rfl) rfl ?_
            refine j_goto 2 dX4_allSettle_83 (by decide) ?_
            first | (rw [if_pos (show dsum _ N i = 0 from b63)] at ih2) | skip
            first
              | (simp only [if_neg (show ¬ dsum _ N i = 0 from b63), if_pos (show 0 < dsum _ N i ∧ ¬ 0 < (stl i _ _ N).2.2 from ⟨Int32.not_le.mp b15, Int32.not_lt.mpr b29⟩)] at ih2; exact ih2 _ _ rfl (by omega) (by omega))
              | (simp only [if_neg (show ¬ dsum _ N i = 0 from b63), if_neg (show ¬ (0 < dsum _ N i ∧ ¬ 0 < (stl i _ _ N).2.2) from fun q => q.2 (Int32.not_le.mp b29))] at ih2; exact ih2 _ _ rfl (by omega) (by omega))
              | (simp only [if_neg (show ¬ dsum _ N i = 0 from b63), if_neg (show ¬ (0 < dsum _ N i ∧ ¬ 0 < (stl i _ _ N).2.2) from fun q => absurd q.1 (Int32.not_lt.mpr b15))] at ih2; exact ih2 _ _ rfl (by omega) (by omega))
              | (simp only [if_pos (show dsum _ N i = 0 from b63), if_pos (show 0 < dsum _ N i ∧ ¬ 0 < (stl i _ _ N).2.2 from ⟨Int32.not_le.mp b15, Int32.not_lt.mpr b29⟩)] at ih2; exact ih2 _ _ rfl (by omega) (by omega))
              | (simp only [if_pos (show dsum _ N i = 0 from b63), if_neg (show ¬ (0 < dsum _ N i ∧ ¬ 0 < (stl i _ _ N).2.2) from fun q => q.2 (Int32.not_le.mp b29))] at ih2; exact ih2 _ _ rfl (by omega) (by omega))
              | (simp only [if_pos (show dsum _ N i = 0 from b63), if_neg (show ¬ (0 < dsum _ N i ∧ ¬ 0 < (stl i _ _ N).2.2) from fun q => absurd q.1 (Int32.not_lt.mpr b15))] at ih2; exact ih2 _ _ rfl (by omega) (by omega))
          · refine j_aload_n dX4_allSettle_66 rfl rfl ?_
            refine j_dup dX4_allSettle_67 rfl ?_
            refine j_getf dX4_allSettle_68 4 9 rfl (Nat.le_of_ble_eq_true rfl) fl_X4_46 in_4 (by first | exact tw_o | exact tw_c | exact tw_i | exact tw_p | exact tw_d) rfl ?_
            refine j_iconst (nI 1) dX4_allSettle_71 rfl ?_
            refine j_iload_n dX4_allSettle_72 rfl rfl ?_
            refine j_ishl dX4_allSettle_73 ?_
            refine j_iconst (-1) dX4_allSettle_74 rfl ?_
            refine j_ixor dX4_allSettle_75 ?_
            refine j_iand dX4_allSettle_76 ?_
            refine j_putf dX4_allSettle_77 4 9 rfl (Nat.le_of_ble_eq_true rfl) fl_X4_46 in_4 tyX4 tyX4_ok nmX4 rfl rfl (by first | exact tw_o | exact tw_c | exact tw_i | exact tw_p | exact tw_d) (Nat.le_of_ble_eq_true rfl) _ (by first | exact tws_o | exact tws_c | exact tws_i | exact tws_p | exact tws_d) ?_
            first | refine j_iincN dX4_allSettle_80 rfl (Nat.le_of_ble_eq_true rfl) rfl ?_ | refine j_iinc _ dX4_allSettle_80 rfl rfl (Nat.le_of_ble_eq_true rfl) rfl ?_
            refine j_goto 2 dX4_allSettle_83 (by decide) ?_
            first | (rw [if_pos (show dsum _ N i = 0 from b63)] at ih2) | skip
            first
              | (simp only [if_neg (show ¬ dsum _ N i = 0 from b63), if_pos (show 0 < dsum _ N i ∧ ¬ 0 < (stl i _ _ N).2.2 from ⟨Int32.not_le.mp b15, Int32.not_lt.mpr b29⟩)] at ih2; exact ih2 _ _ rfl (by omega) (by omega))
              | (simp only [if_neg (show ¬ dsum _ N i = 0 from b63), if_neg (show ¬ (0 < dsum _ N i ∧ ¬ 0 < (stl i _ _ N).2.2) from fun q => q.2 (Int32.not_le.mp b29))] at ih2; exact ih2 _ _ rfl (by omega) (by omega))
              | (simp only [if_neg (show ¬ dsum _ N i = 0 from b63), if_neg (show ¬ (0 < dsum _ N i ∧ ¬ 0 < (stl i _ _ N).2.2) from fun q => absurd q.1 (Int32.not_lt.mpr b15))] at ih2; exact ih2 _ _ rfl (by omega) (by omega))
              | (simp only [if_pos (show dsum _ N i = 0 from b63), if_pos (show 0 < dsum _ N i ∧ ¬ 0 < (stl i _ _ N).2.2 from ⟨Int32.not_le.mp b15, Int32.not_lt.mpr b29⟩)] at ih2; exact ih2 _ _ rfl (by omega) (by omega))
              | (simp only [if_pos (show dsum _ N i = 0 from b63), if_neg (show ¬ (0 < dsum _ N i ∧ ¬ 0 < (stl i _ _ N).2.2) from fun q => q.2 (Int32.not_le.mp b29))] at ih2; exact ih2 _ _ rfl (by omega) (by omega))
              | (simp only [if_pos (show dsum _ N i = 0 from b63), if_neg (show ¬ (0 < dsum _ N i ∧ ¬ 0 < (stl i _ _ N).2.2) from fun q => absurd q.1 (Int32.not_lt.mpr b15))] at ih2; exact ih2 _ _ rfl (by omega) (by omega))
/-- a quarter: cash, debts, who has FAILED -/
def qua (N : Nat) (seed : Int32) (inc ca de : Nat → Int32) (un ra : Int32) (q : Nat) (fa : Int32) : (Nat → Int32) × (Nat → Int32) × Int32 :=
  ((alS N (incC seed inc ca N) de fa N).1, (if nI (q + 1) - nI (q + 1) / nI 9 * nI 9 = 0 then fgv un (alS N (incC seed inc ca N) de fa N).2.1 49 else grw ra (alS N (incC seed inc ca N) de fa N).2.1 49), (alS N (incC seed inc ca N) de fa N).2.2)
theorem c_passQuarter {N q : Nat} (seed : Int32) (hN : N ≤ 7) (hinc : ∀ p, p < 7 → 0 ≤ inc p ∧ ¬ (inc p + nI 1).toInt64 = 0) : Ct G yX4_passQuarter cX4_passQuarter 3 none 5 0 0 z (tw σ t ca inc pa de (nI N) un ra (nI q) hi fa) [.ref t, .int seed] none z (tw σ t (qua N seed inc ca de un ra q fa).1 inc (fil (-1) pa N) (qua N seed inc ca de un ra q fa).2.1 (nI N) un ra (nI (q + 1)) hi (qua N seed inc ca de un ra q fa).2.2) := by
  refine Ct.ofJ RX4 rfl [some (.ref t), some (.int seed), none] rfl (by decide) (by simp [Value.category]) ?_
  have H : ∀ (de2 : Nat → Int32) (k i : Nat), de2 = (qua N seed inc ca de un ra q fa).2.1 → i ≤ N → N < i + k → J G RX4 cX4_passQuarter 3 none (TQ G 5 0 0 none z (tw σ t (qua N seed inc ca de un ra q fa).1 inc (fil (-1) pa N) (qua N seed inc ca de un ra q fa).2.1 (nI N) un ra (nI (q + 1)) hi (qua N seed inc ca de un ra q fa).2.2)) z (tw σ t (qua N seed inc ca de un ra q fa).1 inc (fil (-1) pa i) de2 (nI N) un ra (nI (q + 1)) hi (qua N seed inc ca de un ra q fa).2.2) 0 0 42 [some (.ref t), some (.int seed), some (.int (nI i))] [] := by
    intro de2 k
    induction k with
    | zero => intro i he h1 h2; exact absurd h2 (by omega)
    | succ k ih =>
      intro i he h1 h2
      refine j_iload_n dX4_passQuarter_42 rfl rfl ?_
      refine j_aload_n dX4_passQuarter_43 rfl rfl ?_
      refine j_getf dX4_passQuarter_44 4 4 rfl (Nat.le_of_ble_eq_true rfl) fl_X4_34 in_4 (by first | exact tw_o | exact tw_c | exact tw_i | exact tw_p | exact tw_d) rfl ?_
      refine j_icmp_geN 63 dX4_passQuarter_47 (by decide) (by omega) (by omega) (fun b47 => ?_) (fun b47 => ?_)
      · obtain rfl : i = N := by omega
        subst he
        exact j_vret rfl dX4_passQuarter_63 rfl (Nat.le_of_ble_eq_true rfl) (Nat.le_of_ble_eq_true rfl)
      · refine j_aload_n dX4_passQuarter_50 rfl rfl ?_
        refine j_getf dX4_passQuarter_51 4 2 rfl (Nat.le_of_ble_eq_true rfl) fl_X4_18 in_4 (by first | exact tw_o | exact tw_c | exact tw_i | exact tw_p | exact tw_d) rfl ?_
        refine j_iload_n dX4_passQuarter_54 rfl rfl ?_
        refine j_iconst (-1) dX4_passQuarter_55 rfl ?_
        refine j_iast dX4_passQuarter_56 (by first | exact tw_o | exact tw_c | exact tw_i | exact tw_p | exact tw_d) rfl (by omega) (by decide) _ (by first | exact tws_o | exact tws_c | exact tws_i | exact tws_p | exact tws_d) ?_
        first | refine j_iincN dX4_passQuarter_57 rfl (Nat.le_of_ble_eq_true rfl) rfl ?_ | refine j_iinc _ dX4_passQuarter_57 rfl rfl (Nat.le_of_ble_eq_true rfl) rfl ?_
        refine j_goto 42 dX4_passQuarter_60 (by decide) ?_
        exact ih (i + 1) he (by omega) (by omega)
  refine j_aload_n dX4_passQuarter_0 rfl rfl ?_
  refine j_dup dX4_passQuarter_1 rfl ?_
  refine j_getf dX4_passQuarter_2 4 7 rfl (Nat.le_of_ble_eq_true rfl) fl_X4_40 in_4 (by first | exact tw_o | exact tw_c | exact tw_i | exact tw_p | exact tw_d) rfl ?_
  refine j_iconst (nI 1) dX4_passQuarter_5 rfl ?_
  first | refine j_iaddN dX4_passQuarter_6 ?_ | refine j_iadd dX4_passQuarter_6 ?_
  refine j_putf dX4_passQuarter_7 4 7 rfl (Nat.le_of_ble_eq_true rfl) fl_X4_40 in_4 tyX4 tyX4_ok nmX4 rfl rfl (by first | exact tw_o | exact tw_c | exact tw_i | exact tw_p | exact tw_d) (Nat.le_of_ble_eq_true rfl) _ (by first | exact tws_o | exact tws_c | exact tws_i | exact tws_p | exact tws_d) ?_
  refine j_aload_n dX4_passQuarter_10 rfl rfl ?_
  refine j_iload_n dX4_passQuarter_11 rfl rfl ?_
  refine j_callV (c_incomesCome G z σ t ca inc pa de un ra _ hi fa seed hN hinc) dX4_passQuarter_12 rfl mv_X4_84 (by first | exact tw_o | exact tw_c | exact tw_i | exact tw_p | exact tw_d) rfl ⟨(Nat.le_of_ble_eq_true rfl), (Nat.le_of_ble_eq_true rfl)⟩ ⟨(Nat.le_of_ble_eq_true rfl), (Nat.le_of_ble_eq_true rfl)⟩ (Nat.le_of_ble_eq_true rfl) ?_
  refine j_aload_n dX4_passQuarter_15 rfl rfl ?_
  refine j_callV (c_allSettle G z σ t _ inc pa de un ra _ hi fa hN) dX4_passQuarter_16 rfl mv_X4_88 (by first | exact tw_o | exact tw_c | exact tw_i | exact tw_p | exact tw_d) rfl ⟨(Nat.le_of_ble_eq_true rfl), (Nat.le_of_ble_eq_true rfl)⟩ ⟨(Nat.le_of_ble_eq_true rfl), (Nat.le_of_ble_eq_true rfl)⟩ (Nat.le_of_ble_eq_true rfl) ?_
  refine j_aload_n dX4_passQuarter_19 rfl rfl ?_
  refine j_getf dX4_passQuarter_20 4 7 rfl (Nat.le_of_ble_eq_true rfl) fl_X4_40 in_4 (by first | exact tw_o | exact tw_c | exact tw_i | exact tw_p | exact tw_d) rfl ?_
  refine j_bipush (nI 9) dX4_passQuarter_23 rfl ?_
  refine j_irem dX4_passQuarter_25 (by decide) ?_
  refine j_if_ne 36 dX4_passQuarter_26 (by decide) (fun b26 => ?_) (fun b26 => ?_)
  · refine j_aload_n dX4_passQuarter_36 rfl rfl ?_
    refine j_callV (c_debtsGrow G z σ t _ inc pa _ _ un ra _ hi _) dX4_passQuarter_37 rfl mv_X4_94 (by first | exact tw_o | exact tw_c | exact tw_i | exact tw_p | exact tw_d) rfl ⟨(Nat.le_of_ble_eq_true rfl), (Nat.le_of_ble_eq_true rfl)⟩ ⟨(Nat.le_of_ble_eq_true rfl), (Nat.le_of_ble_eq_true rfl)⟩ (Nat.le_of_ble_eq_true rfl) ?_
    refine j_iconst (nI 0) dX4_passQuarter_40 rfl ?_
    refine j_istore_n dX4_passQuarter_41 rfl (Nat.le_of_ble_eq_true rfl) rfl ?_
    refine H _ (N + 1) 0 ?_ (by omega) (by omega)
    simp only [qua]
    first | rw [if_pos b26] | rw [if_neg b26]
  · refine j_aload_n dX4_passQuarter_29 rfl rfl ?_
    refine j_callV (c_smallDebtsAreForgiven G z σ t _ inc pa _ _ un ra _ hi _) dX4_passQuarter_30 rfl mv_X4_91 (by first | exact tw_o | exact tw_c | exact tw_i | exact tw_p | exact tw_d) rfl ⟨(Nat.le_of_ble_eq_true rfl), (Nat.le_of_ble_eq_true rfl)⟩ ⟨(Nat.le_of_ble_eq_true rfl), (Nat.le_of_ble_eq_true rfl)⟩ (Nat.le_of_ble_eq_true rfl) ?_
    refine j_goto 40 dX4_passQuarter_33 (by decide) ?_
    refine j_iconst (nI 0) dX4_passQuarter_40 rfl ?_
    refine j_istore_n dX4_passQuarter_41 rfl (Nat.le_of_ble_eq_true rfl) rfl ?_
    refine H _ (N + 1) 0 ?_ (by omega) (by omega)
    simp only [qua]
    first | rw [if_pos b26] | rw [if_neg b26]
theorem c_becomes (t2 : Nat) (ca2 inc2 pa2 de2 : Nat → Int32) (pe2 un2 ra2 qu2 hi2 fa2 : Int32) (hs : t2 + 4 < t ∨ t + 4 < t2) : Ct G yX4_becomes cX4_becomes 2 none 1 0 0 z (tw (tw σ t2 ca2 inc2 pa2 de2 pe2 un2 ra2 qu2 hi2 fa2) t ca inc pa de pe un ra qu hi fa) [.ref t, .ref t2] none z (tw (tw σ t2 ca2 inc2 pa2 de2 pe2 un2 ra2 qu2 hi2 fa2) t ca2 inc2 pa2 de2 pe2 un2 ra2 qu2 hi2 fa2) := by
  refine Ct.ofJ RX4 rfl [some (.ref t), some (.ref t2)] rfl (by decide) Nat.le.refl ?_
  refine j_aload_n dX4_becomes_0 rfl rfl ?_
  refine j_getf dX4_becomes_1 4 0 rfl (Nat.le_of_ble_eq_true rfl) fl_X4_9 in_4 (by first | exact tw_o | exact tw_c | exact tw_i | exact tw_p | exact tw_d | exact (tw_x (by omega)).trans tw_o | exact (tw_x (by omega)).trans tw_c | exact (tw_x (by omega)).trans tw_i | exact (tw_x (by omega)).trans tw_p | exact (tw_x (by omega)).trans tw_d) rfl ?_
  refine j_iconst (nI 0) dX4_becomes_4 rfl ?_
  refine j_aload_n dX4_becomes_5 rfl rfl ?_
  refine j_getf dX4_becomes_6 4 0 rfl (Nat.le_of_ble_eq_true rfl) fl_X4_9 in_4 (by first | exact tw_o | exact tw_c | exact tw_i | exact tw_p | exact tw_d | exact (tw_x (by omega)).trans tw_o | exact (tw_x (by omega)).trans tw_c | exact (tw_x (by omega)).trans tw_i | exact (tw_x (by omega)).trans tw_p | exact (tw_x (by omega)).trans tw_d) rfl ?_
  refine j_iconst (nI 0) dX4_becomes_9 rfl ?_
  refine j_bipush (nI 7) dX4_becomes_10 rfl ?_
  refine j_copy dX4_becomes_12 ac_X4_28 (by first | exact tw_o | exact tw_c | exact tw_i | exact tw_p | exact tw_d | exact (tw_x (by omega)).trans tw_o | exact (tw_x (by omega)).trans tw_c | exact (tw_x (by omega)).trans tw_i | exact (tw_x (by omega)).trans tw_p | exact (tw_x (by omega)).trans tw_d) (by first | exact tw_o | exact tw_c | exact tw_i | exact tw_p | exact tw_d | exact (tw_x (by omega)).trans tw_o | exact (tw_x (by omega)).trans tw_c | exact (tw_x (by omega)).trans tw_i | exact (tw_x (by omega)).trans tw_p | exact (tw_x (by omega)).trans tw_d) (by decide) (by decide) (by decide) (by decide) (Nat.le_of_ble_eq_true rfl) (Nat.le_of_ble_eq_true rfl) _ (by first | exact tws_o | exact tws_c | exact tws_i | exact tws_p | exact tws_d) ?_
  refine j_arr ca2 tw_c (fun j h => by rw [pk_cpy_in (by omega) (by omega)]; congr 1; omega) _ tws_c ?_
  refine j_aload_n dX4_becomes_15 rfl rfl ?_
  refine j_getf dX4_becomes_16 4 1 rfl (Nat.le_of_ble_eq_true rfl) fl_X4_15 in_4 (by first | exact tw_o | exact tw_c | exact tw_i | exact tw_p | exact tw_d | exact (tw_x (by omega)).trans tw_o | exact (tw_x (by omega)).trans tw_c | exact (tw_x (by omega)).trans tw_i | exact (tw_x (by omega)).trans tw_p | exact (tw_x (by omega)).trans tw_d) rfl ?_
  refine j_iconst (nI 0) dX4_becomes_19 rfl ?_
  refine j_aload_n dX4_becomes_20 rfl rfl ?_
  refine j_getf dX4_becomes_21 4 1 rfl (Nat.le_of_ble_eq_true rfl) fl_X4_15 in_4 (by first | exact tw_o | exact tw_c | exact tw_i | exact tw_p | exact tw_d | exact (tw_x (by omega)).trans tw_o | exact (tw_x (by omega)).trans tw_c | exact (tw_x (by omega)).trans tw_i | exact (tw_x (by omega)).trans tw_p | exact (tw_x (by omega)).trans tw_d) rfl ?_
  refine j_iconst (nI 0) dX4_becomes_24 rfl ?_
  refine j_bipush (nI 7) dX4_becomes_25 rfl ?_
  refine j_copy dX4_becomes_27 ac_X4_28 (by first | exact tw_o | exact tw_c | exact tw_i | exact tw_p | exact tw_d | exact (tw_x (by omega)).trans tw_o | exact (tw_x (by omega)).trans tw_c | exact (tw_x (by omega)).trans tw_i | exact (tw_x (by omega)).trans tw_p | exact (tw_x (by omega)).trans tw_d) (by first | exact tw_o | exact tw_c | exact tw_i | exact tw_p | exact tw_d | exact (tw_x (by omega)).trans tw_o | exact (tw_x (by omega)).trans tw_c | exact (tw_x (by omega)).trans tw_i | exact (tw_x (by omega)).trans tw_p | exact (tw_x (by omega)).trans tw_d) (by decide) (by decide) (by decide) (by decide) (Nat.le_of_ble_eq_true rfl) (Nat.le_of_ble_eq_true rfl) _ (by first | exact tws_o | exact tws_c | exact tws_i | exact tws_p | exact tws_d) ?_
  refine j_arr inc2 tw_i (fun j h => by rw [pk_cpy_in (by omega) (by omega)]; congr 1; omega) _ tws_i ?_
  refine j_aload_n dX4_becomes_30 rfl rfl ?_
  refine j_getf dX4_becomes_31 4 2 rfl (Nat.le_of_ble_eq_true rfl) fl_X4_18 in_4 (by first | exact tw_o | exact tw_c | exact tw_i | exact tw_p | exact tw_d | exact (tw_x (by omega)).trans tw_o | exact (tw_x (by omega)).trans tw_c | exact (tw_x (by omega)).trans tw_i | exact (tw_x (by omega)).trans tw_p | exact (tw_x (by omega)).trans tw_d) rfl ?_
  refine j_iconst (nI 0) dX4_becomes_34 rfl ?_
  refine j_aload_n dX4_becomes_35 rfl rfl ?_
  refine j_getf dX4_becomes_36 4 2 rfl (Nat.le_of_ble_eq_true rfl) fl_X4_18 in_4 (by first | exact tw_o | exact tw_c | exact tw_i | exact tw_p | exact tw_d | exact (tw_x (by omega)).trans tw_o | exact (tw_x (by omega)).trans tw_c | exact (tw_x (by omega)).trans tw_i | exact (tw_x (by omega)).trans tw_p | exact (tw_x (by omega)).trans tw_d) rfl ?_
  refine j_iconst (nI 0) dX4_becomes_39 rfl ?_
  refine j_bipush (nI 7) dX4_becomes_40 rfl ?_
  refine j_copy dX4_becomes_42 ac_X4_28 (by first | exact tw_o | exact tw_c | exact tw_i | exact tw_p | exact tw_d | exact (tw_x (by omega)).trans tw_o | exact (tw_x (by omega)).trans tw_c | exact (tw_x (by omega)).trans tw_i | exact (tw_x (by omega)).trans tw_p | exact (tw_x (by omega)).trans tw_d) (by first | exact tw_o | exact tw_c | exact tw_i | exact tw_p | exact tw_d | exact (tw_x (by omega)).trans tw_o | exact (tw_x (by omega)).trans tw_c | exact (tw_x (by omega)).trans tw_i | exact (tw_x (by omega)).trans tw_p | exact (tw_x (by omega)).trans tw_d) (by decide) (by decide) (by decide) (by decide) (Nat.le_of_ble_eq_true rfl) (Nat.le_of_ble_eq_true rfl) _ (by first | exact tws_o | exact tws_c | exact tws_i | exact tws_p | exact tws_d) ?_
  refine j_arr pa2 tw_p (fun j h => by rw [pk_cpy_in (by omega) (by omega)]; congr 1; omega) _ tws_p ?_
  refine j_aload_n dX4_becomes_45 rfl rfl ?_
  refine j_getf dX4_becomes_46 4 3 rfl (Nat.le_of_ble_eq_true rfl) fl_X4_21 in_4 (by first | exact tw_o | exact tw_c | exact tw_i | exact tw_p | exact tw_d | exact (tw_x (by omega)).trans tw_o | exact (tw_x (by omega)).trans tw_c | exact (tw_x (by omega)).trans tw_i | exact (tw_x (by omega)).trans tw_p | exact (tw_x (by omega)).trans tw_d) rfl ?_
  refine j_iconst (nI 0) dX4_becomes_49 rfl ?_
  refine j_aload_n dX4_becomes_50 rfl rfl ?_
  refine j_getf dX4_becomes_51 4 3 rfl (Nat.le_of_ble_eq_true rfl) fl_X4_21 in_4 (by first | exact tw_o | exact tw_c | exact tw_i | exact tw_p | exact tw_d | exact (tw_x (by omega)).trans tw_o | exact (tw_x (by omega)).trans tw_c | exact (tw_x (by omega)).trans tw_i | exact (tw_x (by omega)).trans tw_p | exact (tw_x (by omega)).trans tw_d) rfl ?_
  refine j_iconst (nI 0) dX4_becomes_54 rfl ?_
  refine j_bipush (nI 49) dX4_becomes_55 rfl ?_
  refine j_copy dX4_becomes_57 ac_X4_28 (by first | exact tw_o | exact tw_c | exact tw_i | exact tw_p | exact tw_d | exact (tw_x (by omega)).trans tw_o | exact (tw_x (by omega)).trans tw_c | exact (tw_x (by omega)).trans tw_i | exact (tw_x (by omega)).trans tw_p | exact (tw_x (by omega)).trans tw_d) (by first | exact tw_o | exact tw_c | exact tw_i | exact tw_p | exact tw_d | exact (tw_x (by omega)).trans tw_o | exact (tw_x (by omega)).trans tw_c | exact (tw_x (by omega)).trans tw_i | exact (tw_x (by omega)).trans tw_p | exact (tw_x (by omega)).trans tw_d) (by decide) (by decide) (by decide) (by decide) (Nat.le_of_ble_eq_true rfl) (Nat.le_of_ble_eq_true rfl) _ (by first | exact tws_o | exact tws_c | exact tws_i | exact tws_p | exact tws_d) ?_
  refine j_arr de2 tw_d (fun j h => by rw [pk_cpy_in (by omega) (by omega)]; congr 1; omega) _ tws_d ?_
  refine j_aload_n dX4_becomes_60 rfl rfl ?_
  refine j_aload_n dX4_becomes_61 rfl rfl ?_
  refine j_getf dX4_becomes_62 4 4 rfl (Nat.le_of_ble_eq_true rfl) fl_X4_34 in_4 (by first | exact tw_o | exact tw_c | exact tw_i | exact tw_p | exact tw_d | exact (tw_x (by omega)).trans tw_o | exact (tw_x (by omega)).trans tw_c | exact (tw_x (by omega)).trans tw_i | exact (tw_x (by omega)).trans tw_p | exact (tw_x (by omega)).trans tw_d) rfl ?_
  refine j_putf dX4_becomes_65 4 4 rfl (Nat.le_of_ble_eq_true rfl) fl_X4_34 in_4 tyX4 tyX4_ok nmX4 rfl rfl (by first | exact tw_o | exact tw_c | exact tw_i | exact tw_p | exact tw_d | exact (tw_x (by omega)).trans tw_o | exact (tw_x (by omega)).trans tw_c | exact (tw_x (by omega)).trans tw_i | exact (tw_x (by omega)).trans tw_p | exact (tw_x (by omega)).trans tw_d) (Nat.le_of_ble_eq_true rfl) _ (by first | exact tws_o | exact tws_c | exact tws_i | exact tws_p | exact tws_d) ?_
  refine j_aload_n dX4_becomes_68 rfl rfl ?_
  refine j_aload_n dX4_becomes_69 rfl rfl ?_
  refine j_getf dX4_becomes_70 4 5 rfl (Nat.le_of_ble_eq_true rfl) fl_X4_24 in_4 (by first | exact tw_o | exact tw_c | exact tw_i | exact tw_p | exact tw_d | exact (tw_x (by omega)).trans tw_o | exact (tw_x (by omega)).trans tw_c | exact (tw_x (by omega)).trans tw_i | exact (tw_x (by omega)).trans tw_p | exact (tw_x (by omega)).trans tw_d) rfl ?_
  refine j_putf dX4_becomes_73 4 5 rfl (Nat.le_of_ble_eq_true rfl) fl_X4_24 in_4 tyX4 tyX4_ok nmX4 rfl rfl (by first | exact tw_o | exact tw_c | exact tw_i | exact tw_p | exact tw_d | exact (tw_x (by omega)).trans tw_o | exact (tw_x (by omega)).trans tw_c | exact (tw_x (by omega)).trans tw_i | exact (tw_x (by omega)).trans tw_p | exact (tw_x (by omega)).trans tw_d) (Nat.le_of_ble_eq_true rfl) _ (by first | exact tws_o | exact tws_c | exact tws_i | exact tws_p | exact tws_d) ?_
  refine j_aload_n dX4_becomes_76 rfl rfl ?_
  refine j_aload_n dX4_becomes_77 rfl rfl ?_
  refine j_getf dX4_becomes_78 4 6 rfl (Nat.le_of_ble_eq_true rfl) fl_X4_37 in_4 (by first | exact tw_o | exact tw_c | exact tw_i | exact tw_p | exact tw_d | exact (tw_x (by omega)).trans tw_o | exact (tw_x (by omega)).trans tw_c | exact (tw_x (by omega)).trans tw_i | exact (tw_x (by omega)).trans tw_p | exact (tw_x (by omega)).trans tw_d) rfl ?_
  refine j_putf dX4_becomes_81 4 6 rfl (Nat.le_of_ble_eq_true rfl) fl_X4_37 in_4 tyX4 tyX4_ok nmX4 rfl rfl (by first | exact tw_o | exact tw_c | exact tw_i | exact tw_p | exact tw_d | exact (tw_x (by omega)).trans tw_o | exact (tw_x (by omega)).trans tw_c | exact (tw_x (by omega)).trans tw_i | exact (tw_x (by omega)).trans tw_p | exact (tw_x (by omega)).trans tw_d) (Nat.le_of_ble_eq_true rfl) _ (by first | exact tws_o | exact tws_c | exact tws_i | exact tws_p | exact tws_d) ?_
  refine j_aload_n dX4_becomes_84 rfl rfl ?_
  refine j_aload_n dX4_becomes_85 rfl rfl ?_
  refine j_getf dX4_becomes_86 4 7 rfl (Nat.le_of_ble_eq_true rfl) fl_X4_40 in_4 (by first | exact tw_o | exact tw_c | exact tw_i | exact tw_p | exact tw_d | exact (tw_x (by omega)).trans tw_o | exact (tw_x (by omega)).trans tw_c | exact (tw_x (by omega)).trans tw_i | exact (tw_x (by omega)).trans tw_p | exact (tw_x (by omega)).trans tw_d) rfl ?_
  refine j_putf dX4_becomes_89 4 7 rfl (Nat.le_of_ble_eq_true rfl) fl_X4_40 in_4 tyX4 tyX4_ok nmX4 rfl rfl (by first | exact tw_o | exact tw_c | exact tw_i | exact tw_p | exact tw_d | exact (tw_x (by omega)).trans tw_o | exact (tw_x (by omega)).trans tw_c | exact (tw_x (by omega)).trans tw_i | exact (tw_x (by omega)).trans tw_p | exact (tw_x (by omega)).trans tw_d) (Nat.le_of_ble_eq_true rfl) _ (by first | exact tws_o | exact tws_c | exact tws_i | exact tws_p | exact tws_d) ?_
  refine j_aload_n dX4_becomes_92 rfl rfl ?_
  refine j_aload_n dX4_becomes_93 rfl rfl ?_
  refine j_getf dX4_becomes_94 4 8 rfl (Nat.le_of_ble_eq_true rfl) fl_X4_43 in_4 (by first | exact tw_o | exact tw_c | exact tw_i | exact tw_p | exact tw_d | exact (tw_x (by omega)).trans tw_o | exact (tw_x (by omega)).trans tw_c | exact (tw_x (by omega)).trans tw_i | exact (tw_x (by omega)).trans tw_p | exact (tw_x (by omega)).trans tw_d) rfl ?_
  refine j_putf dX4_becomes_97 4 8 rfl (Nat.le_of_ble_eq_true rfl) fl_X4_43 in_4 tyX4 tyX4_ok nmX4 rfl rfl (by first | exact tw_o | exact tw_c | exact tw_i | exact tw_p | exact tw_d | exact (tw_x (by omega)).trans tw_o | exact (tw_x (by omega)).trans tw_c | exact (tw_x (by omega)).trans tw_i | exact (tw_x (by omega)).trans tw_p | exact (tw_x (by omega)).trans tw_d) (Nat.le_of_ble_eq_true rfl) _ (by first | exact tws_o | exact tws_c | exact tws_i | exact tws_p | exact tws_d) ?_
  refine j_aload_n dX4_becomes_100 rfl rfl ?_
  refine j_aload_n dX4_becomes_101 rfl rfl ?_
  refine j_getf dX4_becomes_102 4 9 rfl (Nat.le_of_ble_eq_true rfl) fl_X4_46 in_4 (by first | exact tw_o | exact tw_c | exact tw_i | exact tw_p | exact tw_d | exact (tw_x (by omega)).trans tw_o | exact (tw_x (by omega)).trans tw_c | exact (tw_x (by omega)).trans tw_i | exact (tw_x (by omega)).trans tw_p | exact (tw_x (by omega)).trans tw_d) rfl ?_
  refine j_putf dX4_becomes_105 4 9 rfl (Nat.le_of_ble_eq_true rfl) fl_X4_46 in_4 tyX4 tyX4_ok nmX4 rfl rfl (by first | exact tw_o | exact tw_c | exact tw_i | exact tw_p | exact tw_d | exact (tw_x (by omega)).trans tw_o | exact (tw_x (by omega)).trans tw_c | exact (tw_x (by omega)).trans tw_i | exact (tw_x (by omega)).trans tw_p | exact (tw_x (by omega)).trans tw_d) (Nat.le_of_ble_eq_true rfl) _ (by first | exact tws_o | exact tws_c | exact tws_i | exact tws_p | exact tws_d) ?_
  exact j_vret rfl dX4_becomes_108 rfl (Nat.le_of_ble_eq_true rfl) (Nat.le_of_ble_eq_true rfl)
theorem c_settlesIn {N : Nat} (c i h : Int32) (hN : N < 7) : Ct G yX4_settlesIn cX4_settlesIn 4 none 1 0 0 z (tw σ t ca inc pa de (nI N) un ra qu hi fa) [.ref t, .int c, .int i, .int h] none z (tw σ t (upd ca N c) (upd inc N i) (upd pa N (-1)) de (nI (N + 1)) un ra qu (if h = 0 then hi else orI hi N) fa) := by
  refine Ct.ofJ RX4 rfl [some (.ref t), some (.int c), some (.int i), some (.int h)] rfl (by decide) Nat.le.refl ?_
  refine j_aload_n dX4_settlesIn_0 rfl rfl ?_
  refine j_getf dX4_settlesIn_1 4 4 rfl (Nat.le_of_ble_eq_true rfl) fl_X4_34 in_4 (by first | exact tw_o | exact tw_c | exact tw_i | exact tw_p | exact tw_d) rfl ?_
  refine j_bipush (nI 7) dX4_settlesIn_4 rfl ?_
  refine j_icmp_ltN 10 dX4_settlesIn_6 (by decide) (by omega) (by omega) (fun b6 => ?_) (fun b6 => ?_)
  · refine j_aload_n dX4_settlesIn_10 rfl rfl ?_
    refine j_getf dX4_settlesIn_11 4 0 rfl (Nat.le_of_ble_eq_true rfl) fl_X4_9 in_4 (by first | exact tw_o | exact tw_c | exact tw_i | exact tw_p | exact tw_d) rfl ?_
    refine j_aload_n dX4_settlesIn_14 rfl rfl ?_
    refine j_getf dX4_settlesIn_15 4 4 rfl (Nat.le_of_ble_eq_true rfl) fl_X4_34 in_4 (by first | exact tw_o | exact tw_c | exact tw_i | exact tw_p | exact tw_d) rfl ?_
    refine j_iload_n dX4_settlesIn_18 rfl rfl ?_
    refine j_iast dX4_settlesIn_19 (by first | exact tw_o | exact tw_c | exact tw_i | exact tw_p | exact tw_d) rfl (by omega) (by decide) _ (by first | exact tws_o | exact tws_c | exact tws_i | exact tws_p | exact tws_d) ?_
    refine j_aload_n dX4_settlesIn_20 rfl rfl ?_
    refine j_getf dX4_settlesIn_21 4 1 rfl (Nat.le_of_ble_eq_true rfl) fl_X4_15 in_4 (by first | exact tw_o | exact tw_c | exact tw_i | exact tw_p | exact tw_d) rfl ?_
    refine j_aload_n dX4_settlesIn_24 rfl rfl ?_
    refine j_getf dX4_settlesIn_25 4 4 rfl (Nat.le_of_ble_eq_true rfl) fl_X4_34 in_4 (by first | exact tw_o | exact tw_c | exact tw_i | exact tw_p | exact tw_d) rfl ?_
    refine j_iload_n dX4_settlesIn_28 rfl rfl ?_
    refine j_iast dX4_settlesIn_29 (by first | exact tw_o | exact tw_c | exact tw_i | exact tw_p | exact tw_d) rfl (by omega) (by decide) _ (by first | exact tws_o | exact tws_c | exact tws_i | exact tws_p | exact tws_d) ?_
    refine j_aload_n dX4_settlesIn_30 rfl rfl ?_
    refine j_getf dX4_settlesIn_31 4 2 rfl (Nat.le_of_ble_eq_true rfl) fl_X4_18 in_4 (by first | exact tw_o | exact tw_c | exact tw_i | exact tw_p | exact tw_d) rfl ?_
    refine j_aload_n dX4_settlesIn_34 rfl rfl ?_
    refine j_getf dX4_settlesIn_35 4 4 rfl (Nat.le_of_ble_eq_true rfl) fl_X4_34 in_4 (by first | exact tw_o | exact tw_c | exact tw_i | exact tw_p | exact tw_d) rfl ?_
    refine j_iconst (-1) dX4_settlesIn_38 rfl ?_
    refine j_iast dX4_settlesIn_39 (by first | exact tw_o | exact tw_c | exact tw_i | exact tw_p | exact tw_d) rfl (by omega) (by decide) _ (by first | exact tws_o | exact tws_c | exact tws_i | exact tws_p | exact tws_d) ?_
    refine j_iload_n dX4_settlesIn_40 rfl rfl ?_
    refine j_if_eq 59 dX4_settlesIn_41 (by decide) (fun b41 => ?_) (fun b41 => ?_)
    · refine j_aload_n dX4_settlesIn_59 rfl rfl ?_
      refine j_dup dX4_settlesIn_60 rfl ?_
      refine j_getf dX4_settlesIn_61 4 4 rfl (Nat.le_of_ble_eq_true rfl) fl_X4_34 in_4 (by first | exact tw_o | exact tw_c | exact tw_i | exact tw_p | exact tw_d) rfl ?_
      refine j_iconst (nI 1) dX4_settlesIn_64 rfl ?_
      first | refine j_iaddN dX4_settlesIn_65 ?_ | refine j_iadd dX4_settlesIn_65 ?_
      refine j_putf dX4_settlesIn_66 4 4 rfl (Nat.le_of_ble_eq_true rfl) fl_X4_34 in_4 tyX4 tyX4_ok nmX4 rfl rfl (by first | exact tw_o | exact tw_c | exact tw_i | exact tw_p | exact tw_d) (Nat.le_of_ble_eq_true rfl) _ (by first | exact tws_o | exact tws_c | exact tws_i | exact tws_p | exact tws_d) ?_
      exact j_vret rfl dX4_settlesIn_69 (by first | rw [if_pos b41] | rw [if_neg b41]; rfl) (Nat.le_of_ble_eq_true rfl) (Nat.le_of_ble_eq_true rfl)
    · refine j_aload_n dX4_settlesIn_44 rfl rfl ?_
      refine j_dup dX4_settlesIn_45 rfl ?_
      refine j_getf dX4_settlesIn_46 4 8 rfl (Nat.le_of_ble_eq_true rfl) fl_X4_43 in_4 (by first | exact tw_o | exact tw_c | exact tw_i | exact tw_p | exact tw_d) rfl ?_
      refine j_iconst (nI 1) dX4_settlesIn_49 rfl ?_
      refine j_aload_n dX4_settlesIn_50 rfl rfl ?_
      refine j_getf dX4_settlesIn_51 4 4 rfl (Nat.le_of_ble_eq_true rfl) fl_X4_34 in_4 (by first | exact tw_o | exact tw_c | exact tw_i | exact tw_p | exact tw_d) rfl ?_
      refine j_ishl dX4_settlesIn_54 ?_
      refine j_ior dX4_settlesIn_55 ?_
      refine j_putf dX4_settlesIn_56 4 8 rfl (Nat.le_of_ble_eq_true rfl) fl_X4_43 in_4 tyX4 tyX4_ok nmX4 rfl rfl (by first | exact tw_o | exact tw_c | exact tw_i | exact tw_p | exact tw_d) (Nat.le_of_ble_eq_true rfl) _ (by first | exact tws_o | exact tws_c | exact tws_i | exact tws_p | exact tws_d) ?_
      refine j_aload_n dX4_settlesIn_59 rfl rfl ?_
      refine j_dup dX4_settlesIn_60 rfl ?_
      refine j_getf dX4_settlesIn_61 4 4 rfl (Nat.le_of_ble_eq_true rfl) fl_X4_34 in_4 (by first | exact tw_o | exact tw_c | exact tw_i | exact tw_p | exact tw_d) rfl ?_
      refine j_iconst (nI 1) dX4_settlesIn_64 rfl ?_
      first | refine j_iaddN dX4_settlesIn_65 ?_ | refine j_iadd dX4_settlesIn_65 ?_
      refine j_putf dX4_settlesIn_66 4 4 rfl (Nat.le_of_ble_eq_true rfl) fl_X4_34 in_4 tyX4 tyX4_ok nmX4 rfl rfl (by first | exact tw_o | exact tw_c | exact tw_i | exact tw_p | exact tw_d) (Nat.le_of_ble_eq_true rfl) _ (by first | exact tws_o | exact tws_c | exact tws_i | exact tws_p | exact tws_d) ?_
      exact j_vret rfl dX4_settlesIn_69 (by first | rw [if_pos b41] | rw [if_neg b41]; rfl) (Nat.le_of_ble_eq_true rfl) (Nat.le_of_ble_eq_true rfl)
  · exfalso; omega
end T5

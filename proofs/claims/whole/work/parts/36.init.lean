/-! THE CONSTRUCTORS of the class -/
abbrev T0 : TS := (fun _ => 0, fun _ => 0, fun _ => 0, fun _ => 0, 0, 1, 0, 0, 0, 0)
theorem ups_xa {σ : AH} {a b : Nat} {e f : AE} (h : a ≠ b) : ups (ups σ a e) b f a = some e := (ups_x h).trans ups_a
theorem dX4_init_0 : decode cX4_init 0 = .ok (.aload_n 0, 1) := by decide +kernel
theorem dX4_init_1 : decode cX4_init 1 = .ok (.invokespecial 3, 3) := by decide +kernel
theorem dX4_init_4 : decode cX4_init 4 = .ok (.aload_n 0, 1) := by decide +kernel
theorem dX4_init_5 : decode cX4_init 5 = .ok (.bipush 7, 2) := by decide +kernel
theorem dX4_init_7 : decode cX4_init 7 = .ok (.newarray .int, 2) := by decide +kernel
theorem dX4_init_9 : decode cX4_init 9 = .ok (.putfield 9, 3) := by decide +kernel
theorem dX4_init_12 : decode cX4_init 12 = .ok (.aload_n 0, 1) := by decide +kernel
theorem dX4_init_13 : decode cX4_init 13 = .ok (.bipush 7, 2) := by decide +kernel
theorem dX4_init_15 : decode cX4_init 15 = .ok (.newarray .int, 2) := by decide +kernel
theorem dX4_init_17 : decode cX4_init 17 = .ok (.putfield 15, 3) := by decide +kernel
theorem dX4_init_20 : decode cX4_init 20 = .ok (.aload_n 0, 1) := by decide +kernel
theorem dX4_init_21 : decode cX4_init 21 = .ok (.bipush 7, 2) := by decide +kernel
theorem dX4_init_23 : decode cX4_init 23 = .ok (.newarray .int, 2) := by decide +kernel
theorem dX4_init_25 : decode cX4_init 25 = .ok (.putfield 18, 3) := by decide +kernel
theorem dX4_init_28 : decode cX4_init 28 = .ok (.aload_n 0, 1) := by decide +kernel
theorem dX4_init_29 : decode cX4_init 29 = .ok (.bipush 49, 2) := by decide +kernel
theorem dX4_init_31 : decode cX4_init 31 = .ok (.newarray .int, 2) := by decide +kernel
theorem dX4_init_33 : decode cX4_init 33 = .ok (.putfield 21, 3) := by decide +kernel
theorem dX4_init_36 : decode cX4_init 36 = .ok (.aload_n 0, 1) := by decide +kernel
theorem dX4_init_37 : decode cX4_init 37 = .ok (.iconst 1, 1) := by decide +kernel
theorem dX4_init_38 : decode cX4_init 38 = .ok (.putfield 24, 3) := by decide +kernel
theorem dX4_init_41 : decode cX4_init 41 = .ok (.return_, 1) := by decide +kernel
theorem dX3_init_0 : decode cX3_init 0 = .ok (.aload_n 0, 1) := by decide +kernel
theorem dX3_init_1 : decode cX3_init 1 = .ok (.invokespecial 3, 3) := by decide +kernel
theorem dX3_init_4 : decode cX3_init 4 = .ok (.aload_n 0, 1) := by decide +kernel
theorem dX3_init_5 : decode cX3_init 5 = .ok (.bipush 40, 2) := by decide +kernel
theorem dX3_init_7 : decode cX3_init 7 = .ok (.newarray .int, 2) := by decide +kernel
theorem dX3_init_9 : decode cX3_init 9 = .ok (.putfield 9, 3) := by decide +kernel
theorem dX3_init_12 : decode cX3_init 12 = .ok (.aload_n 0, 1) := by decide +kernel
theorem dX3_init_13 : decode cX3_init 13 = .ok (.iconst (-1), 1) := by decide +kernel
theorem dX3_init_14 : decode cX3_init 14 = .ok (.putfield 15, 3) := by decide +kernel
theorem dX3_init_17 : decode cX3_init 17 = .ok (.aload_n 0, 1) := by decide +kernel
theorem dX3_init_18 : decode cX3_init 18 = .ok (.iconst 0, 1) := by decide +kernel
theorem dX3_init_19 : decode cX3_init 19 = .ok (.putfield 19, 3) := by decide +kernel
theorem dX3_init_22 : decode cX3_init 22 = .ok (.return_, 1) := by decide +kernel
theorem dX0_init_0 : decode cX0_init 0 = .ok (.aload_n 0, 1) := by decide +kernel
theorem dX0_init_1 : decode cX0_init 1 = .ok (.invokespecial 3, 3) := by decide +kernel
theorem dX0_init_4 : decode cX0_init 4 = .ok (.aload_n 0, 1) := by decide +kernel
theorem dX0_init_5 : decode cX0_init 5 = .ok (.bipush 24, 2) := by decide +kernel
theorem dX0_init_7 : decode cX0_init 7 = .ok (.anewarray 9, 3) := by decide +kernel
theorem dX0_init_10 : decode cX0_init 10 = .ok (.putfield 11, 3) := by decide +kernel
theorem dX0_init_13 : decode cX0_init 13 = .ok (.iconst 0, 1) := by decide +kernel
theorem dX0_init_14 : decode cX0_init 14 = .ok (.istore_n 1, 1) := by decide +kernel
theorem dX0_init_15 : decode cX0_init 15 = .ok (.iload_n 1, 1) := by decide +kernel
theorem dX0_init_16 : decode cX0_init 16 = .ok (.bipush 24, 2) := by decide +kernel
theorem dX0_init_18 : decode cX0_init 18 = .ok (.if_icmp .ge 22, 3) := by decide +kernel
theorem dX0_init_21 : decode cX0_init 21 = .ok (.aload_n 0, 1) := by decide +kernel
theorem dX0_init_22 : decode cX0_init 22 = .ok (.getfield 11, 3) := by decide +kernel
theorem dX0_init_25 : decode cX0_init 25 = .ok (.iload_n 1, 1) := by decide +kernel
theorem dX0_init_26 : decode cX0_init 26 = .ok (.new 9, 3) := by decide +kernel
theorem dX0_init_29 : decode cX0_init 29 = .ok (.dup, 1) := by decide +kernel
theorem dX0_init_30 : decode cX0_init 30 = .ok (.invokespecial 17, 3) := by decide +kernel
theorem dX0_init_33 : decode cX0_init 33 = .ok (.aastore, 1) := by decide +kernel
theorem dX0_init_34 : decode cX0_init 34 = .ok (.iinc 1 1, 3) := by decide +kernel
theorem dX0_init_37 : decode cX0_init 37 = .ok (.goto (-22), 3) := by decide +kernel
theorem dX0_init_40 : decode cX0_init 40 = .ok (.return_, 1) := by decide +kernel
theorem dX2_init_0 : decode cX2_init 0 = .ok (.aload_n 0, 1) := by decide +kernel
theorem dX2_init_1 : decode cX2_init 1 = .ok (.invokespecial 3, 3) := by decide +kernel
theorem dX2_init_4 : decode cX2_init 4 = .ok (.aload_n 0, 1) := by decide +kernel
theorem dX2_init_5 : decode cX2_init 5 = .ok (.sipush 400, 3) := by decide +kernel
theorem dX2_init_8 : decode cX2_init 8 = .ok (.newarray .byte, 2) := by decide +kernel
theorem dX2_init_10 : decode cX2_init 10 = .ok (.putfield 9, 3) := by decide +kernel
theorem dX2_init_13 : decode cX2_init 13 = .ok (.aload_n 0, 1) := by decide +kernel
theorem dX2_init_14 : decode cX2_init 14 = .ok (.new 15, 3) := by decide +kernel
theorem dX2_init_17 : decode cX2_init 17 = .ok (.dup, 1) := by decide +kernel
theorem dX2_init_18 : decode cX2_init 18 = .ok (.invokespecial 17, 3) := by decide +kernel
theorem dX2_init_21 : decode cX2_init 21 = .ok (.putfield 18, 3) := by decide +kernel
theorem dX2_init_24 : decode cX2_init 24 = .ok (.return_, 1) := by decide +kernel
theorem dX1_init_0 : decode cX1_init 0 = .ok (.aload_n 0, 1) := by decide +kernel
theorem dX1_init_1 : decode cX1_init 1 = .ok (.invokespecial 3, 3) := by decide +kernel
theorem dX1_init_4 : decode cX1_init 4 = .ok (.aload_n 0, 1) := by decide +kernel
theorem dX1_init_5 : decode cX1_init 5 = .ok (.bipush 16, 2) := by decide +kernel
theorem dX1_init_7 : decode cX1_init 7 = .ok (.newarray .int, 2) := by decide +kernel
theorem dX1_init_9 : decode cX1_init 9 = .ok (.putfield 9, 3) := by decide +kernel
theorem dX1_init_12 : decode cX1_init 12 = .ok (.return_, 1) := by decide +kernel
theorem dX5_init_0 : decode cX5_init 0 = .ok (.aload_n 0, 1) := by decide +kernel
theorem dX5_init_1 : decode cX5_init 1 = .ok (.invokespecial 1, 3) := by decide +kernel
theorem dX5_init_4 : decode cX5_init 4 = .ok (.aload_n 0, 1) := by decide +kernel
theorem dX5_init_5 : decode cX5_init 5 = .ok (.bipush 8, 2) := by decide +kernel
theorem dX5_init_7 : decode cX5_init 7 = .ok (.anewarray 9, 3) := by decide +kernel
theorem dX5_init_10 : decode cX5_init 10 = .ok (.putfield 11, 3) := by decide +kernel
theorem dX5_init_13 : decode cX5_init 13 = .ok (.iconst 0, 1) := by decide +kernel
theorem dX5_init_14 : decode cX5_init 14 = .ok (.istore_n 1, 1) := by decide +kernel
theorem dX5_init_15 : decode cX5_init 15 = .ok (.iload_n 1, 1) := by decide +kernel
theorem dX5_init_16 : decode cX5_init 16 = .ok (.bipush 8, 2) := by decide +kernel
theorem dX5_init_18 : decode cX5_init 18 = .ok (.if_icmp .ge 22, 3) := by decide +kernel
theorem dX5_init_21 : decode cX5_init 21 = .ok (.aload_n 0, 1) := by decide +kernel
theorem dX5_init_22 : decode cX5_init 22 = .ok (.getfield 11, 3) := by decide +kernel
theorem dX5_init_25 : decode cX5_init 25 = .ok (.iload_n 1, 1) := by decide +kernel
theorem dX5_init_26 : decode cX5_init 26 = .ok (.new 9, 3) := by decide +kernel
theorem dX5_init_29 : decode cX5_init 29 = .ok (.dup, 1) := by decide +kernel
theorem dX5_init_30 : decode cX5_init 30 = .ok (.invokespecial 15, 3) := by decide +kernel
theorem dX5_init_33 : decode cX5_init 33 = .ok (.aastore, 1) := by decide +kernel
theorem dX5_init_34 : decode cX5_init 34 = .ok (.iinc 1 1, 3) := by decide +kernel
theorem dX5_init_37 : decode cX5_init 37 = .ok (.goto (-22), 3) := by decide +kernel
theorem dX5_init_40 : decode cX5_init 40 = .ok (.aload_n 0, 1) := by decide +kernel
theorem dX5_init_41 : decode cX5_init 41 = .ok (.new 16, 3) := by decide +kernel
theorem dX5_init_44 : decode cX5_init 44 = .ok (.dup, 1) := by decide +kernel
theorem dX5_init_45 : decode cX5_init 45 = .ok (.invokespecial 18, 3) := by decide +kernel
theorem dX5_init_48 : decode cX5_init 48 = .ok (.putfield 19, 3) := by decide +kernel
theorem dX5_init_51 : decode cX5_init 51 = .ok (.aload_n 0, 1) := by decide +kernel
theorem dX5_init_52 : decode cX5_init 52 = .ok (.new 23, 3) := by decide +kernel
theorem dX5_init_55 : decode cX5_init 55 = .ok (.dup, 1) := by decide +kernel
theorem dX5_init_56 : decode cX5_init 56 = .ok (.invokespecial 25, 3) := by decide +kernel
theorem dX5_init_59 : decode cX5_init 59 = .ok (.putfield 26, 3) := by decide +kernel
theorem dX5_init_62 : decode cX5_init 62 = .ok (.aload_n 0, 1) := by decide +kernel
theorem dX5_init_63 : decode cX5_init 63 = .ok (.new 23, 3) := by decide +kernel
theorem dX5_init_66 : decode cX5_init 66 = .ok (.dup, 1) := by decide +kernel
theorem dX5_init_67 : decode cX5_init 67 = .ok (.invokespecial 25, 3) := by decide +kernel
theorem dX5_init_70 : decode cX5_init 70 = .ok (.putfield 30, 3) := by decide +kernel
theorem dX5_init_73 : decode cX5_init 73 = .ok (.aload_n 0, 1) := by decide +kernel
theorem dX5_init_74 : decode cX5_init 74 = .ok (.new 33, 3) := by decide +kernel
theorem dX5_init_77 : decode cX5_init 77 = .ok (.dup, 1) := by decide +kernel
theorem dX5_init_78 : decode cX5_init 78 = .ok (.invokespecial 35, 3) := by decide +kernel
theorem dX5_init_81 : decode cX5_init 81 = .ok (.putfield 36, 3) := by decide +kernel
theorem dX5_init_84 : decode cX5_init 84 = .ok (.aload_n 0, 1) := by decide +kernel
theorem dX5_init_85 : decode cX5_init 85 = .ok (.iconst 2, 1) := by decide +kernel
theorem dX5_init_86 : decode cX5_init 86 = .ok (.anewarray 23, 3) := by decide +kernel
theorem dX5_init_89 : decode cX5_init 89 = .ok (.putfield 40, 3) := by decide +kernel
theorem dX5_init_92 : decode cX5_init 92 = .ok (.iconst 0, 1) := by decide +kernel
theorem dX5_init_93 : decode cX5_init 93 = .ok (.istore_n 1, 1) := by decide +kernel
theorem dX5_init_94 : decode cX5_init 94 = .ok (.iload_n 1, 1) := by decide +kernel
theorem dX5_init_95 : decode cX5_init 95 = .ok (.iconst 2, 1) := by decide +kernel
theorem dX5_init_96 : decode cX5_init 96 = .ok (.if_icmp .ge 22, 3) := by decide +kernel
theorem dX5_init_99 : decode cX5_init 99 = .ok (.aload_n 0, 1) := by decide +kernel
theorem dX5_init_100 : decode cX5_init 100 = .ok (.getfield 40, 3) := by decide +kernel
theorem dX5_init_103 : decode cX5_init 103 = .ok (.iload_n 1, 1) := by decide +kernel
theorem dX5_init_104 : decode cX5_init 104 = .ok (.new 23, 3) := by decide +kernel
theorem dX5_init_107 : decode cX5_init 107 = .ok (.dup, 1) := by decide +kernel
theorem dX5_init_108 : decode cX5_init 108 = .ok (.invokespecial 25, 3) := by decide +kernel
theorem dX5_init_111 : decode cX5_init 111 = .ok (.aastore, 1) := by decide +kernel
theorem dX5_init_112 : decode cX5_init 112 = .ok (.iinc 1 1, 3) := by decide +kernel
theorem dX5_init_115 : decode cX5_init 115 = .ok (.goto (-21), 3) := by decide +kernel
theorem dX5_init_118 : decode cX5_init 118 = .ok (.aload_n 0, 1) := by decide +kernel
theorem dX5_init_119 : decode cX5_init 119 = .ok (.new 44, 3) := by decide +kernel
theorem dX5_init_122 : decode cX5_init 122 = .ok (.dup, 1) := by decide +kernel
theorem dX5_init_123 : decode cX5_init 123 = .ok (.invokespecial 46, 3) := by decide +kernel
theorem dX5_init_126 : decode cX5_init 126 = .ok (.putfield 47, 3) := by decide +kernel
theorem dX5_init_129 : decode cX5_init 129 = .ok (.aload_n 0, 1) := by decide +kernel
theorem dX5_init_130 : decode cX5_init 130 = .ok (.bipush 7, 2) := by decide +kernel
theorem dX5_init_132 : decode cX5_init 132 = .ok (.newarray .int, 2) := by decide +kernel
theorem dX5_init_134 : decode cX5_init 134 = .ok (.putfield 51, 3) := by decide +kernel
theorem dX5_init_137 : decode cX5_init 137 = .ok (.return_, 1) := by decide +kernel
section N1
variable {G : GG} {z : Nat} {σ : AH}
theorem k_town {t : Nat} (h : σ t = some (.inr (.inr (4, dfl4)))) (ht : t + 5 < 1000000) : Ct G yX4_init cX4_init 1 none 1 4 70 (t + 1) σ [.ref t] none (t + 5) (twS σ t T0) := by
  refine Ct.ofJI RX4 rfl [some (.ref t)] rfl (by decide) rfl (by simp [Value.category]) ?_
  refine j_aload_n dX4_init_0 rfl rfl ?_
  refine j_objInit dX4_init_1 oi_X4_3 (Nat.le_of_ble_eq_true rfl) (Nat.le_of_ble_eq_true rfl) ?_
  refine j_aload_n dX4_init_4 rfl rfl ?_
  refine j_bipush (nI 7) dX4_init_5 rfl ?_
  refine j_newa .int 0 (by decide) dX4_init_7 rfl ar_int rfl (Nat.le_of_ble_eq_true rfl) (by show _ < 1000000; omega) (Nat.le_of_ble_eq_true rfl) (Nat.le_of_ble_eq_true rfl) ?_
  refine j_putF dX4_init_9 4 0 rfl (Nat.le_of_ble_eq_true rfl) fl_X4_9 in_4 tyX4 tyX4_ok nmX4 rfl rfl (fun _ _ _ h => h) (fun _ => rfl) (fun _ => rfl) (by first | exact h | exact ups_a | exact (ups_x (by omega)).trans h | exact ups_xa (by omega)) (Nat.le_of_ble_eq_true rfl) _ rfl ?_
  refine j_aload_n dX4_init_12 rfl rfl ?_
  refine j_bipush (nI 7) dX4_init_13 rfl ?_
  refine j_newa .int 0 (by decide) dX4_init_15 rfl ar_int rfl (Nat.le_of_ble_eq_true rfl) (by show _ < 1000000; omega) (Nat.le_of_ble_eq_true rfl) (Nat.le_of_ble_eq_true rfl) ?_
  refine j_putF dX4_init_17 4 1 rfl (Nat.le_of_ble_eq_true rfl) fl_X4_15 in_4 tyX4 tyX4_ok nmX4 rfl rfl (fun _ _ _ h => h) (fun _ => rfl) (fun _ => rfl) (by first | exact h | exact ups_a | exact (ups_x (by omega)).trans h | exact ups_xa (by omega)) (Nat.le_of_ble_eq_true rfl) _ rfl ?_
  refine j_aload_n dX4_init_20 rfl rfl ?_
  refine j_bipush (nI 7) dX4_init_21 rfl ?_
  refine j_newa .int 0 (by decide) dX4_init_23 rfl ar_int rfl (Nat.le_of_ble_eq_true rfl) (by show _ < 1000000; omega) (Nat.le_of_ble_eq_true rfl) (Nat.le_of_ble_eq_true rfl) ?_
  refine j_putF dX4_init_25 4 2 rfl (Nat.le_of_ble_eq_true rfl) fl_X4_18 in_4 tyX4 tyX4_ok nmX4 rfl rfl (fun _ _ _ h => h) (fun _ => rfl) (fun _ => rfl) (by first | exact h | exact ups_a | exact (ups_x (by omega)).trans h | exact ups_xa (by omega)) (Nat.le_of_ble_eq_true rfl) _ rfl ?_
  refine j_aload_n dX4_init_28 rfl rfl ?_
  refine j_bipush (nI 49) dX4_init_29 rfl ?_
  refine j_newa .int 0 (by decide) dX4_init_31 rfl ar_int rfl (Nat.le_of_ble_eq_true rfl) (by show _ < 1000000; omega) (Nat.le_of_ble_eq_true rfl) (Nat.le_of_ble_eq_true rfl) ?_
  refine j_putF dX4_init_33 4 3 rfl (Nat.le_of_ble_eq_true rfl) fl_X4_21 in_4 tyX4 tyX4_ok nmX4 rfl rfl (fun _ _ _ h => h) (fun _ => rfl) (fun _ => rfl) (by first | exact h | exact ups_a | exact (ups_x (by omega)).trans h | exact ups_xa (by omega)) (Nat.le_of_ble_eq_true rfl) _ rfl ?_
  refine j_aload_n dX4_init_36 rfl rfl ?_
  refine j_iconst (nI 1) dX4_init_37 rfl ?_
  refine j_putf dX4_init_38 4 5 rfl (Nat.le_of_ble_eq_true rfl) fl_X4_24 in_4 tyX4 tyX4_ok nmX4 rfl rfl (by first | exact h | exact ups_a | exact (ups_x (by omega)).trans h | exact ups_xa (by omega)) (Nat.le_of_ble_eq_true rfl) _ rfl ?_
  exact j_vretI rfl dX4_init_41 rfl (by
    funext k
    unfold twS tw ups
    by_cases h0 : k = t
    · subst h0; simp; rfl
    · by_cases h1 : k = t + 1
      · subst h1; simp
      · by_cases h2 : k = t + 2
        · subst h2; simp
        · by_cases h3 : k = t + 3
          · subst h3; simp
          · by_cases h4 : k = t + 4
            · subst h4; simp
            · simp [h0, h1, h2, h3, h4]) (Nat.le_of_ble_eq_true rfl) (Nat.le_of_ble_eq_true rfl)
theorem k_row {t : Nat} (h : σ t = some (.inr (.inr (3, dfl3)))) (ht : t + 5 < 1000000) : Ct G yX3_init cX3_init 1 none 1 1 40 (t + 1) σ [.ref t] none (t + 2) (rw' σ t (fun _ => 0) (-1) (nI 0)) := by
  refine Ct.ofJI RX3 rfl [some (.ref t)] rfl (by decide) rfl (by simp [Value.category]) ?_
  refine j_aload_n dX3_init_0 rfl rfl ?_
  refine j_objInit dX3_init_1 oi_X3_3 (Nat.le_of_ble_eq_true rfl) (Nat.le_of_ble_eq_true rfl) ?_
  refine j_aload_n dX3_init_4 rfl rfl ?_
  refine j_bipush (nI 40) dX3_init_5 rfl ?_
  refine j_newa .int 0 (by decide) dX3_init_7 rfl ar_int rfl (Nat.le_of_ble_eq_true rfl) (by show _ < 1000000; omega) (Nat.le_of_ble_eq_true rfl) (Nat.le_of_ble_eq_true rfl) ?_
  refine j_putF dX3_init_9 3 0 rfl (Nat.le_of_ble_eq_true rfl) fl_X3_9 in_3 tyX3 tyX3_ok nmX3 rfl rfl (fun _ _ _ h => h) (fun _ => rfl) (fun _ => rfl) (by first | exact h | exact ups_a | exact (ups_x (by omega)).trans h | exact ups_xa (by omega)) (Nat.le_of_ble_eq_true rfl) _ rfl ?_
  refine j_aload_n dX3_init_12 rfl rfl ?_
  refine j_iconst (-1) dX3_init_13 rfl ?_
  refine j_putf dX3_init_14 3 1 rfl (Nat.le_of_ble_eq_true rfl) fl_X3_15 in_3 tyX3 tyX3_ok nmX3 rfl rfl (by first | exact h | exact ups_a | exact (ups_x (by omega)).trans h | exact ups_xa (by omega)) (Nat.le_of_ble_eq_true rfl) _ rfl ?_
  refine j_aload_n dX3_init_17 rfl rfl ?_
  refine j_iconst (nI 0) dX3_init_18 rfl ?_
  refine j_putf dX3_init_19 3 2 rfl (Nat.le_of_ble_eq_true rfl) fl_X3_19 in_3 tyX3 tyX3_ok nmX3 rfl rfl (by first | exact h | exact ups_a | exact (ups_x (by omega)).trans h | exact ups_xa (by omega)) (Nat.le_of_ble_eq_true rfl) _ rfl ?_
  exact j_vretI rfl dX3_init_22 rfl (by
    funext k
    unfold rw' ups
    by_cases h0 : k = t
    · subst h0; simp
    · by_cases h1 : k = t + 1
      · subst h1; simp
      · simp [h0, h1]) (Nat.le_of_ble_eq_true rfl) (Nat.le_of_ble_eq_true rfl)
theorem k_asks {t : Nat} (h : σ t = some (.inr (.inr (1, dfl1)))) (ht : t + 5 < 1000000) : Ct G yX1_init cX1_init 1 none 1 1 16 (t + 1) σ [.ref t] none (t + 2) (ups (ups σ (t + 1) (.inl (0, 16, fun _ => 0))) t (.inr (.inr (1, [.ref (t + 1), .int 0])))) := by
  refine Ct.ofJI RX1 rfl [some (.ref t)] rfl (by decide) rfl (by simp [Value.category]) ?_
  refine j_aload_n dX1_init_0 rfl rfl ?_
  refine j_objInit dX1_init_1 oi_X1_3 (Nat.le_of_ble_eq_true rfl) (Nat.le_of_ble_eq_true rfl) ?_
  refine j_aload_n dX1_init_4 rfl rfl ?_
  refine j_bipush (nI 16) dX1_init_5 rfl ?_
  refine j_newa .int 0 (by decide) dX1_init_7 rfl ar_int rfl (Nat.le_of_ble_eq_true rfl) (by show _ < 1000000; omega) (Nat.le_of_ble_eq_true rfl) (Nat.le_of_ble_eq_true rfl) ?_
  refine j_putF dX1_init_9 1 0 rfl (Nat.le_of_ble_eq_true rfl) fl_X1_9 in_1 tyX1 tyX1_ok nmX1 rfl rfl (fun _ _ _ h => h) (fun _ => rfl) (fun _ => rfl) (by first | exact h | exact ups_a | exact (ups_x (by omega)).trans h | exact ups_xa (by omega)) (Nat.le_of_ble_eq_true rfl) _ rfl ?_
  exact j_vretI rfl dX1_init_12 rfl rfl (Nat.le_of_ble_eq_true rfl) (Nat.le_of_ble_eq_true rfl)
def kRd (σ : AH) (t : Nat) : AH := ups (twS (ups (ups (ups σ (t + 1) (.inl (1, 400, fun _ => 0))) t (.inr (.inr (2, [.ref (t + 1), .null, .int 0, .int 0, .int 0, .int 0, .int 0, .int 0, .int 0])))) (t + 2) (.inr (.inr (4, dfl4)))) (t + 2) T0) t (.inr (.inr (2, [.ref (t + 1), .ref (t + 2), .int 0, .int 0, .int 0, .int 0, .int 0, .int 0, .int 0])))
theorem k_reader {t : Nat} (h : σ t = some (.inr (.inr (2, dfl2)))) (ht : t + 10 < 1000000) : Ct G yX2_init cX2_init 1 none 2 6 480 (t + 1) σ [.ref t] none (t + 7) (kRd σ t) := by
  refine Ct.ofJI RX2 rfl [some (.ref t)] rfl (by decide) rfl (by simp [Value.category]) ?_
  refine j_aload_n dX2_init_0 rfl rfl ?_
  refine j_objInit dX2_init_1 oi_X2_3 (Nat.le_of_ble_eq_true rfl) (Nat.le_of_ble_eq_true rfl) ?_
  refine j_aload_n dX2_init_4 rfl rfl ?_
  refine j_sipush (nI 400) dX2_init_5 rfl ?_
  refine j_newa .byte 1 (by decide) dX2_init_8 rfl ar_byte rfl (Nat.le_of_ble_eq_true rfl) (by show _ < 1000000; omega) (Nat.le_of_ble_eq_true rfl) (Nat.le_of_ble_eq_true rfl) ?_
  refine j_putF dX2_init_10 2 0 rfl (Nat.le_of_ble_eq_true rfl) fl_X2_9 in_2 tyX2 tyX2_ok nmX2 rfl rfl (fun _ _ _ h => h) (fun _ => rfl) (fun _ => rfl) (by first | exact h | exact ups_a | exact (ups_x (by omega)).trans h | exact ups_xa (by omega) | exact (twS_x (Or.inl (by omega))).trans (ups_xa (by omega))) (Nat.le_of_ble_eq_true rfl) _ rfl ?_
  refine j_aload_n dX2_init_13 rfl rfl ?_
  refine j_new dX2_init_14 4 rfl cl_X2_15 nw_4 in_4 tyX4 tyX4_ok dfl4 (df_4 G) (by show _ < 1000000; omega) (Nat.le_of_ble_eq_true rfl) (Nat.le_of_ble_eq_true rfl) ?_
  refine j_dup dX2_init_17 rfl ?_
  refine j_callI (k_town ups_a (by omega)) dX2_init_18 rfl mi_X2_17 ⟨(Nat.le_of_ble_eq_true rfl), (Nat.le_of_ble_eq_true rfl)⟩ ⟨(Nat.le_of_ble_eq_true rfl), (Nat.le_of_ble_eq_true rfl)⟩ (Nat.le_of_ble_eq_true rfl) ?_
  refine j_putF dX2_init_21 2 1 rfl (Nat.le_of_ble_eq_true rfl) fl_X2_18 in_2 tyX2 tyX2_ok nmX2 rfl rfl (fun _ _ _ h => h) (fun _ => rfl) (fun _ => rfl) (by first | exact h | exact ups_a | exact (ups_x (by omega)).trans h | exact ups_xa (by omega) | exact (twS_x (Or.inl (by omega))).trans (ups_xa (by omega))) (Nat.le_of_ble_eq_true rfl) _ rfl ?_
  exact j_vretI rfl dX2_init_24 rfl rfl (Nat.le_of_ble_eq_true rfl) (Nat.le_of_ble_eq_true rfl)
def fA (t i : Nat) : Nat → Option Nat := fun j => if j < i then some (t + 2 + 5 * j) else none
theorem fA_0 (t : Nat) : (fun _ => none) = fA t 0 := by funext j; simp [fA]
theorem fA_s (t i : Nat) : updR (fA t i) i (t + 2 + 5 * i) = fA t (i + 1) := by
  funext j
  unfold updR fA
  by_cases h : j = i
  · subst h; simp
  · rw [if_neg h]
    by_cases h2 : j < i
    · rw [if_pos h2, if_pos (by omega)]
    · rw [if_neg h2, if_neg (by omega)]
def kAs (σ : AH) (t : Nat) : Nat → AH
  | 0 => ups (ups σ (t + 1) (.inr (.inl (4, 24, fA t 0)))) t (.inr (.inr (0, [.ref (t + 1), .int 0, .int 0])))
  | i + 1 => ups (twS (ups (kAs σ t i) (t + 2 + 5 * i) (.inr (.inr (4, dfl4)))) (t + 2 + 5 * i) T0) (t + 1) (.inr (.inl (4, 24, fA t (i + 1))))
theorem kAs_x {σ : AH} {t k : Nat} (h : k < t) : ∀ i, kAs σ t i k = σ k
  | 0 => (ups_x (by omega)).trans (ups_x (by omega))
  | i + 1 => (ups_x (by omega)).trans ((twS_x (by omega)).trans ((ups_x (by omega)).trans (kAs_x h i)))
theorem kAs_o {σ : AH} {t : Nat} : ∀ i, kAs σ t i t = some (.inr (.inr (0, [.ref (t + 1), .int 0, .int 0])))
  | 0 => ups_a
  | i + 1 => (ups_x (by omega)).trans ((twS_x (by omega)).trans ((ups_x (by omega)).trans (kAs_o i)))
theorem kAs_a {σ : AH} {t : Nat} : ∀ i, kAs σ t i (t + 1) = some (.inr (.inl (4, 24, fA t i)))
  | 0 => ups_xa (by omega)
  | i + 1 => ups_a
theorem kAs_t {σ : AH} {t j : Nat} : ∀ i, j < i → Tat (kAs σ t i) (t + 2 + 5 * j) T0
  | 0, h => absurd h (by omega)
  | i + 1, h => by
    by_cases hj : j < i
    · exact (kAs_t i hj).keep (fun k h1 h2 => (ups_x (by omega)).trans ((twS_x (by omega)).trans (ups_x (by omega))))
    · obtain rfl : j = i := by omega
      exact Tat.new.keep (fun k h1 h2 => ups_x (by omega))
theorem k_acts {t : Nat} (h : σ t = some (.inr (.inr (0, dfl0)))) (ht : t + 200 < 1000000) : Ct G yX0_init cX0_init 2 none 2 121 1944 (t + 1) σ [.ref t] none (t + 122) (ups (kAs σ t 24) (t + 1) (.inr (.inl (4, 24, fun i => some (t + 2 + 5 * i))))) := by
  refine Ct.ofJI RX0 rfl [some (.ref t), none] rfl (by decide) rfl (by simp [Value.category]) ?_
  refine j_aload_n dX0_init_0 rfl rfl ?_
  refine j_objInit dX0_init_1 oi_X0_3 (Nat.le_of_ble_eq_true rfl) (Nat.le_of_ble_eq_true rfl) ?_
  refine j_aload_n dX0_init_4 rfl rfl ?_
  refine j_bipush (nI 24) dX0_init_5 rfl ?_
  refine j_anew 4 dX0_init_7 cl_X0_9 rfl ao_4 rfl (Nat.le_of_ble_eq_true rfl) (by show _ < 1000000; omega) (Nat.le_of_ble_eq_true rfl) (Nat.le_of_ble_eq_true rfl) ?_
  refine j_putF dX0_init_10 0 0 rfl (Nat.le_of_ble_eq_true rfl) fl_X0_11 in_0 tyX0 tyX0_ok nmX0 rfl rfl (fun _ _ _ h => h) (fun _ => rfl) (fun _ => rfl) (by first | exact h | exact ups_a | exact (ups_x (by omega)).trans h | exact ups_xa (by omega)) (Nat.le_of_ble_eq_true rfl) _ (show _ = kAs σ t 0 by rw [fA_0 t]; rfl) ?_
  refine j_iconst (nI 0) dX0_init_13 rfl ?_
  refine j_istore_n dX0_init_14 rfl (Nat.le_of_ble_eq_true rfl) rfl ?_
  suffices H : ∀ (kk i z' kc' ks' : Nat), i ≤ 24 → 24 < i + kk → z' = t + 2 + 5 * i → kc' = 1 + 5 * i → ks' = 24 + 80 * i → J G RX0 cX0_init 2 none (TI G 2 121 1944 (t + 122) (ups (kAs σ t 24) (t + 1) (.inr (.inl (4, 24, fun i => some (t + 2 + 5 * i)))))) z' (kAs σ t i) kc' ks' 15 [some (.ref t), some (.int (nI i))] [] from H 25 0 _ _ _ (by omega) (by omega) (by omega) (by omega) (by omega)
  intro kk
  induction kk with
  | zero => intro i z' kc' ks' h1 h2; exact absurd h2 (by omega)
  | succ kk ih =>
    intro i z' kc' ks' h1 h2 h3 h4 h5
    subst h3; subst h4; subst h5
    by_cases hi : i < 24
    · refine j_iload_n dX0_init_15 rfl rfl ?_
      refine j_bipush (nI 24) dX0_init_16 rfl ?_
      refine j_icmp_geN 40 dX0_init_18 (by decide) (by omega) (by omega) (fun b18 => by exfalso; omega) (fun b18 => ?_)
      refine j_aload_n dX0_init_21 rfl rfl ?_
      refine j_getf dX0_init_22 0 0 rfl (Nat.le_of_ble_eq_true rfl) fl_X0_11 in_0 (by first | exact kAs_o i | exact kAs_a i) rfl ?_
      refine j_iload_n dX0_init_25 rfl rfl ?_
      refine j_new dX0_init_26 4 rfl cl_X0_9 nw_4 in_4 tyX4 tyX4_ok dfl4 (df_4 G) (by show _ < 1000000; omega) (by show _ ≤ 121; omega) (by show _ ≤ 1944; omega) ?_
      refine j_dup dX0_init_29 rfl ?_
      refine j_callI (k_town ups_a (by omega)) dX0_init_30 rfl mi_X0_17 ⟨(Nat.le_of_ble_eq_true rfl), (Nat.le_of_ble_eq_true rfl)⟩ ⟨by show _ ≤ 121; omega, by show _ ≤ 1944; omega⟩ (Nat.le_of_ble_eq_true rfl) ?_
      refine j_aast 4 dX0_init_33 ((twS_x (Or.inl (by omega))).trans ((ups_x (by omega)).trans (kAs_a i))) rfl rfl (Tat.new.o) rfl hi (by decide) (kAs σ t (i + 1)) (by rw [fA_s]; rfl) ?_
      first | refine j_iincN dX0_init_34 rfl (Nat.le_of_ble_eq_true rfl) rfl ?_ | refine j_iinc _ dX0_init_34 rfl rfl (Nat.le_of_ble_eq_true rfl) rfl ?_
      refine j_goto 15 dX0_init_37 (by decide) ?_
      exact ih (i + 1) _ _ _ (by omega) (by omega) (by omega) (by omega) (by omega)
    · obtain rfl : i = 24 := by omega
      refine j_arrR (fun i => some (t + 2 + 5 * i)) (kAs_a 24) (fun j hj => by unfold fA; rw [if_pos hj]) _ rfl ?_
      refine j_iload_n dX0_init_15 rfl rfl ?_
      refine j_bipush (nI 24) dX0_init_16 rfl ?_
      refine j_icmp_geN 40 dX0_init_18 (by decide) (by omega) (by omega) (fun b18 => ?_) (fun b18 => by exfalso; omega)
      exact j_vretI rfl dX0_init_40 rfl rfl (Nat.le_of_ble_eq_true rfl) (Nat.le_of_ble_eq_true rfl)
end N1

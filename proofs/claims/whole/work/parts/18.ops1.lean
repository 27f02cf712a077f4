/-! THE CLASS's calls with rows -/
section RV
variable {G : GG} {z : Nat} {σ : AH} {a : Nat} {it : Nat → Int32} {la le : Int32}
theorem c_isMissingR (h : Rat σ a it la le) : Ct G yX3_isMissing cX3_isMissing 1 (some .boolean) 1 0 0 z σ [.ref a] (some (.int (if la = -1 then nI 1 else nI 0))) z σ := by
  have h2 := c_isMissing G z σ a it la le
  rw [show rw' σ a it la le = σ from h] at h2
  exact h2
theorem c_hasRangeR (h : Rat σ a it la le) (i n : Int32) : Ct G yX3_hasRange cX3_hasRange 3 (some .boolean) 1 0 0 z σ [.ref a, .int i, .int n] (some (.int (rngI i n le))) z σ := by
  have h2 := c_hasRange G z σ a it la le i n
  rw [show rw' σ a it la le = σ from h] at h2
  exact h2
theorem c_vanishR (h : Rat σ a it la le) : Ct G yX3_vanish cX3_vanish 1 none 1 0 0 z σ [.ref a] none z (rw' σ a it (-1) (nI 0)) := by
  have h2 := c_vanish G z σ a it la le
  rw [show rw' σ a it la le = σ from h] at h2
  exact h2
theorem c_beginR (h : Rat σ a it la le) {m : Nat} (x : Int32) (hm : m ≤ 40) : Ct G yX3_begin cX3_begin 4 none 1 0 0 z σ [.ref a, .int x, .int (nI m)] none z (rw' σ a (fil (nI 0) it m) x (nI m)) := by
  have h2 := c_begin G z σ a it la le x hm
  rw [show rw' σ a it la le = σ from h] at h2
  exact h2
theorem c_putR (h : Rat σ a it la le) {k : Nat} (v : Int32) (hk : k < 40) : Ct G yX3_put cX3_put 3 (some .int) 1 0 0 z σ [.ref a, .int (nI k), .int v] (some (.int (putI la v))) z (rw' σ a (upd it k (putI la v)) la le) := by
  have h2 := c_put G z σ a it la le v hk
  rw [show rw' σ a it la le = σ from h] at h2
  exact h2
end RV
theorem nrI_k {k : Nat} (h : k < 8) : nrI (nI k) = nI 0 := by
  unfold nrI
  rw [if_neg (nI_pos (by omega)), if_pos (nI_lt h (by decide))]
theorem dX5_row_0 : decode cX5_row 0 = .ok (.iload_n 1, 1) := by decide +kernel
theorem dX5_row_1 : decode cX5_row 1 = .ok (.invokestatic 55, 3) := by decide +kernel
theorem dX5_row_4 : decode cX5_row 4 = .ok (.ifCond .ne 18, 3) := by decide +kernel
theorem dX5_row_7 : decode cX5_row 7 = .ok (.iload_n 2, 1) := by decide +kernel
theorem dX5_row_8 : decode cX5_row 8 = .ok (.ifCond .lt 14, 3) := by decide +kernel
theorem dX5_row_11 : decode cX5_row 11 = .ok (.iload_n 2, 1) := by decide +kernel
theorem dX5_row_12 : decode cX5_row 12 = .ok (.iconst 2, 1) := by decide +kernel
theorem dX5_row_13 : decode cX5_row 13 = .ok (.if_icmp .gt 9, 3) := by decide +kernel
theorem dX5_row_16 : decode cX5_row 16 = .ok (.iload_n 3, 1) := by decide +kernel
theorem dX5_row_17 : decode cX5_row 17 = .ok (.bipush 40, 2) := by decide +kernel
theorem dX5_row_19 : decode cX5_row 19 = .ok (.if_icmp .le 6, 3) := by decide +kernel
theorem dX5_row_22 : decode cX5_row 22 = .ok (.ldc 59, 2) := by decide +kernel
theorem dX5_row_24 : decode cX5_row 24 = .ok (.ireturn, 1) := by decide +kernel
theorem dX5_row_25 : decode cX5_row 25 = .ok (.iload_n 3, 1) := by decide +kernel
theorem dX5_row_26 : decode cX5_row 26 = .ok (.ifCond .ge 9, 3) := by decide +kernel
theorem dX5_row_29 : decode cX5_row 29 = .ok (.aload_n 0, 1) := by decide +kernel
theorem dX5_row_30 : decode cX5_row 30 = .ok (.iconst 4, 1) := by decide +kernel
theorem dX5_row_31 : decode cX5_row 31 = .ok (.invokevirtual 60, 3) := by decide +kernel
theorem dX5_row_34 : decode cX5_row 34 = .ok (.ireturn, 1) := by decide +kernel
theorem dX5_row_35 : decode cX5_row 35 = .ok (.aload_n 0, 1) := by decide +kernel
theorem dX5_row_36 : decode cX5_row 36 = .ok (.getfield 11, 3) := by decide +kernel
theorem dX5_row_39 : decode cX5_row 39 = .ok (.iload_n 1, 1) := by decide +kernel
theorem dX5_row_40 : decode cX5_row 40 = .ok (.aaload, 1) := by decide +kernel
theorem dX5_row_41 : decode cX5_row 41 = .ok (.iload_n 2, 1) := by decide +kernel
theorem dX5_row_42 : decode cX5_row 42 = .ok (.iload_n 3, 1) := by decide +kernel
theorem dX5_row_43 : decode cX5_row 43 = .ok (.invokevirtual 64, 3) := by decide +kernel
theorem dX5_row_46 : decode cX5_row 46 = .ok (.aload_n 0, 1) := by decide +kernel
theorem dX5_row_47 : decode cX5_row 47 = .ok (.iload_n 3, 1) := by decide +kernel
theorem dX5_row_48 : decode cX5_row 48 = .ok (.invokevirtual 68, 3) := by decide +kernel
theorem dX5_row_51 : decode cX5_row 51 = .ok (.ireturn, 1) := by decide +kernel
theorem dX5_set_0 : decode cX5_set 0 = .ok (.iload_n 1, 1) := by decide +kernel
theorem dX5_set_1 : decode cX5_set 1 = .ok (.invokestatic 55, 3) := by decide +kernel
theorem dX5_set_4 : decode cX5_set 4 = .ok (.ifCond .eq 6, 3) := by decide +kernel
theorem dX5_set_7 : decode cX5_set 7 = .ok (.ldc 59, 2) := by decide +kernel
theorem dX5_set_9 : decode cX5_set 9 = .ok (.ireturn, 1) := by decide +kernel
theorem dX5_set_10 : decode cX5_set 10 = .ok (.aload_n 0, 1) := by decide +kernel
theorem dX5_set_11 : decode cX5_set 11 = .ok (.getfield 11, 3) := by decide +kernel
theorem dX5_set_14 : decode cX5_set 14 = .ok (.iload_n 1, 1) := by decide +kernel
theorem dX5_set_15 : decode cX5_set 15 = .ok (.aaload, 1) := by decide +kernel
theorem dX5_set_16 : decode cX5_set 16 = .ok (.astore 4, 2) := by decide +kernel
theorem dX5_set_18 : decode cX5_set 18 = .ok (.aload 4, 2) := by decide +kernel
theorem dX5_set_20 : decode cX5_set 20 = .ok (.invokevirtual 71, 3) := by decide +kernel
theorem dX5_set_23 : decode cX5_set 23 = .ok (.ifCond .eq 9, 3) := by decide +kernel
theorem dX5_set_26 : decode cX5_set 26 = .ok (.aload_n 0, 1) := by decide +kernel
theorem dX5_set_27 : decode cX5_set 27 = .ok (.iconst 1, 1) := by decide +kernel
theorem dX5_set_28 : decode cX5_set 28 = .ok (.invokevirtual 60, 3) := by decide +kernel
theorem dX5_set_31 : decode cX5_set 31 = .ok (.ireturn, 1) := by decide +kernel
theorem dX5_set_32 : decode cX5_set 32 = .ok (.aload 4, 2) := by decide +kernel
theorem dX5_set_34 : decode cX5_set 34 = .ok (.iload_n 2, 1) := by decide +kernel
theorem dX5_set_35 : decode cX5_set 35 = .ok (.iconst 1, 1) := by decide +kernel
theorem dX5_set_36 : decode cX5_set 36 = .ok (.invokevirtual 75, 3) := by decide +kernel
theorem dX5_set_39 : decode cX5_set 39 = .ok (.ifCond .ne 9, 3) := by decide +kernel
theorem dX5_set_42 : decode cX5_set 42 = .ok (.aload_n 0, 1) := by decide +kernel
theorem dX5_set_43 : decode cX5_set 43 = .ok (.iconst 2, 1) := by decide +kernel
theorem dX5_set_44 : decode cX5_set 44 = .ok (.invokevirtual 60, 3) := by decide +kernel
theorem dX5_set_47 : decode cX5_set 47 = .ok (.ireturn, 1) := by decide +kernel
theorem dX5_set_48 : decode cX5_set 48 = .ok (.aload_n 0, 1) := by decide +kernel
theorem dX5_set_49 : decode cX5_set 49 = .ok (.aload 4, 2) := by decide +kernel
theorem dX5_set_51 : decode cX5_set 51 = .ok (.iload_n 2, 1) := by decide +kernel
theorem dX5_set_52 : decode cX5_set 52 = .ok (.iload_n 3, 1) := by decide +kernel
theorem dX5_set_53 : decode cX5_set 53 = .ok (.invokevirtual 79, 3) := by decide +kernel
theorem dX5_set_56 : decode cX5_set 56 = .ok (.invokevirtual 68, 3) := by decide +kernel
theorem dX5_set_59 : decode cX5_set 59 = .ok (.ireturn, 1) := by decide +kernel
theorem dX5_copy_0 : decode cX5_copy 0 = .ok (.iload_n 1, 1) := by decide +kernel
theorem dX5_copy_1 : decode cX5_copy 1 = .ok (.invokestatic 55, 3) := by decide +kernel
theorem dX5_copy_4 : decode cX5_copy 4 = .ok (.ifCond .ne 10, 3) := by decide +kernel
theorem dX5_copy_7 : decode cX5_copy 7 = .ok (.iload_n 3, 1) := by decide +kernel
theorem dX5_copy_8 : decode cX5_copy 8 = .ok (.invokestatic 55, 3) := by decide +kernel
theorem dX5_copy_11 : decode cX5_copy 11 = .ok (.ifCond .eq 6, 3) := by decide +kernel
theorem dX5_copy_14 : decode cX5_copy 14 = .ok (.ldc 59, 2) := by decide +kernel
theorem dX5_copy_16 : decode cX5_copy 16 = .ok (.ireturn, 1) := by decide +kernel
theorem dX5_copy_17 : decode cX5_copy 17 = .ok (.aload_n 0, 1) := by decide +kernel
theorem dX5_copy_18 : decode cX5_copy 18 = .ok (.getfield 11, 3) := by decide +kernel
theorem dX5_copy_21 : decode cX5_copy 21 = .ok (.iload_n 1, 1) := by decide +kernel
theorem dX5_copy_22 : decode cX5_copy 22 = .ok (.aaload, 1) := by decide +kernel
theorem dX5_copy_23 : decode cX5_copy 23 = .ok (.astore 6, 2) := by decide +kernel
theorem dX5_copy_25 : decode cX5_copy 25 = .ok (.aload_n 0, 1) := by decide +kernel
theorem dX5_copy_26 : decode cX5_copy 26 = .ok (.getfield 11, 3) := by decide +kernel
theorem dX5_copy_29 : decode cX5_copy 29 = .ok (.iload_n 3, 1) := by decide +kernel
theorem dX5_copy_30 : decode cX5_copy 30 = .ok (.aaload, 1) := by decide +kernel
theorem dX5_copy_31 : decode cX5_copy 31 = .ok (.astore 7, 2) := by decide +kernel
theorem dX5_copy_33 : decode cX5_copy 33 = .ok (.aload 6, 2) := by decide +kernel
theorem dX5_copy_35 : decode cX5_copy 35 = .ok (.invokevirtual 71, 3) := by decide +kernel
theorem dX5_copy_38 : decode cX5_copy 38 = .ok (.ifCond .ne 11, 3) := by decide +kernel
theorem dX5_copy_41 : decode cX5_copy 41 = .ok (.aload 7, 2) := by decide +kernel
theorem dX5_copy_43 : decode cX5_copy 43 = .ok (.invokevirtual 71, 3) := by decide +kernel
theorem dX5_copy_46 : decode cX5_copy 46 = .ok (.ifCond .eq 9, 3) := by decide +kernel
theorem dX5_copy_49 : decode cX5_copy 49 = .ok (.aload_n 0, 1) := by decide +kernel
theorem dX5_copy_50 : decode cX5_copy 50 = .ok (.iconst 1, 1) := by decide +kernel
theorem dX5_copy_51 : decode cX5_copy 51 = .ok (.invokevirtual 60, 3) := by decide +kernel
theorem dX5_copy_54 : decode cX5_copy 54 = .ok (.ireturn, 1) := by decide +kernel
theorem dX5_copy_55 : decode cX5_copy 55 = .ok (.aload 6, 2) := by decide +kernel
theorem dX5_copy_57 : decode cX5_copy 57 = .ok (.getfield 83, 3) := by decide +kernel
theorem dX5_copy_60 : decode cX5_copy 60 = .ok (.aload 7, 2) := by decide +kernel
theorem dX5_copy_62 : decode cX5_copy 62 = .ok (.getfield 83, 3) := by decide +kernel
theorem dX5_copy_65 : decode cX5_copy 65 = .ok (.if_icmp .eq 9, 3) := by decide +kernel
theorem dX5_copy_68 : decode cX5_copy 68 = .ok (.aload_n 0, 1) := by decide +kernel
theorem dX5_copy_69 : decode cX5_copy 69 = .ok (.iconst 5, 1) := by decide +kernel
theorem dX5_copy_70 : decode cX5_copy 70 = .ok (.invokevirtual 60, 3) := by decide +kernel
theorem dX5_copy_73 : decode cX5_copy 73 = .ok (.ireturn, 1) := by decide +kernel
theorem dX5_copy_74 : decode cX5_copy 74 = .ok (.aload 6, 2) := by decide +kernel
theorem dX5_copy_76 : decode cX5_copy 76 = .ok (.iload_n 2, 1) := by decide +kernel
theorem dX5_copy_77 : decode cX5_copy 77 = .ok (.iload 5, 2) := by decide +kernel
theorem dX5_copy_79 : decode cX5_copy 79 = .ok (.invokevirtual 75, 3) := by decide +kernel
theorem dX5_copy_82 : decode cX5_copy 82 = .ok (.ifCond .eq 15, 3) := by decide +kernel
theorem dX5_copy_85 : decode cX5_copy 85 = .ok (.aload 7, 2) := by decide +kernel
theorem dX5_copy_87 : decode cX5_copy 87 = .ok (.iload 4, 2) := by decide +kernel
theorem dX5_copy_89 : decode cX5_copy 89 = .ok (.iload 5, 2) := by decide +kernel
theorem dX5_copy_91 : decode cX5_copy 91 = .ok (.invokevirtual 75, 3) := by decide +kernel
theorem dX5_copy_94 : decode cX5_copy 94 = .ok (.ifCond .ne 9, 3) := by decide +kernel
theorem dX5_copy_97 : decode cX5_copy 97 = .ok (.aload_n 0, 1) := by decide +kernel
theorem dX5_copy_98 : decode cX5_copy 98 = .ok (.iconst 2, 1) := by decide +kernel
theorem dX5_copy_99 : decode cX5_copy 99 = .ok (.invokevirtual 60, 3) := by decide +kernel
theorem dX5_copy_102 : decode cX5_copy 102 = .ok (.ireturn, 1) := by decide +kernel
theorem dX5_copy_103 : decode cX5_copy 103 = .ok (.aload 6, 2) := by decide +kernel
theorem dX5_copy_105 : decode cX5_copy 105 = .ok (.getfield 87, 3) := by decide +kernel
theorem dX5_copy_108 : decode cX5_copy 108 = .ok (.iload_n 2, 1) := by decide +kernel
theorem dX5_copy_109 : decode cX5_copy 109 = .ok (.aload 7, 2) := by decide +kernel
theorem dX5_copy_111 : decode cX5_copy 111 = .ok (.getfield 87, 3) := by decide +kernel
theorem dX5_copy_114 : decode cX5_copy 114 = .ok (.iload 4, 2) := by decide +kernel
theorem dX5_copy_116 : decode cX5_copy 116 = .ok (.iload 5, 2) := by decide +kernel
theorem dX5_copy_118 : decode cX5_copy 118 = .ok (.invokestatic 90, 3) := by decide +kernel
theorem dX5_copy_121 : decode cX5_copy 121 = .ok (.aload_n 0, 1) := by decide +kernel
theorem dX5_copy_122 : decode cX5_copy 122 = .ok (.iload 5, 2) := by decide +kernel
theorem dX5_copy_124 : decode cX5_copy 124 = .ok (.invokevirtual 68, 3) := by decide +kernel
theorem dX5_copy_127 : decode cX5_copy 127 = .ok (.ireturn, 1) := by decide +kernel
theorem dX5_drop_0 : decode cX5_drop 0 = .ok (.iload_n 1, 1) := by decide +kernel
theorem dX5_drop_1 : decode cX5_drop 1 = .ok (.invokestatic 55, 3) := by decide +kernel
theorem dX5_drop_4 : decode cX5_drop 4 = .ok (.ifCond .eq 6, 3) := by decide +kernel
theorem dX5_drop_7 : decode cX5_drop 7 = .ok (.ldc 59, 2) := by decide +kernel
theorem dX5_drop_9 : decode cX5_drop 9 = .ok (.ireturn, 1) := by decide +kernel
theorem dX5_drop_10 : decode cX5_drop 10 = .ok (.aload_n 0, 1) := by decide +kernel
theorem dX5_drop_11 : decode cX5_drop 11 = .ok (.getfield 11, 3) := by decide +kernel
theorem dX5_drop_14 : decode cX5_drop 14 = .ok (.iload_n 1, 1) := by decide +kernel
theorem dX5_drop_15 : decode cX5_drop 15 = .ok (.aaload, 1) := by decide +kernel
theorem dX5_drop_16 : decode cX5_drop 16 = .ok (.astore_n 2, 1) := by decide +kernel
theorem dX5_drop_17 : decode cX5_drop 17 = .ok (.aload_n 2, 1) := by decide +kernel
theorem dX5_drop_18 : decode cX5_drop 18 = .ok (.invokevirtual 71, 3) := by decide +kernel
theorem dX5_drop_21 : decode cX5_drop 21 = .ok (.ifCond .eq 9, 3) := by decide +kernel
theorem dX5_drop_24 : decode cX5_drop 24 = .ok (.aload_n 0, 1) := by decide +kernel
theorem dX5_drop_25 : decode cX5_drop 25 = .ok (.iconst 1, 1) := by decide +kernel
theorem dX5_drop_26 : decode cX5_drop 26 = .ok (.invokevirtual 60, 3) := by decide +kernel
theorem dX5_drop_29 : decode cX5_drop 29 = .ok (.ireturn, 1) := by decide +kernel
theorem dX5_drop_30 : decode cX5_drop 30 = .ok (.aload_n 2, 1) := by decide +kernel
theorem dX5_drop_31 : decode cX5_drop 31 = .ok (.getfield 96, 3) := by decide +kernel
theorem dX5_drop_34 : decode cX5_drop 34 = .ok (.istore_n 3, 1) := by decide +kernel
theorem dX5_drop_35 : decode cX5_drop 35 = .ok (.aload_n 2, 1) := by decide +kernel
theorem dX5_drop_36 : decode cX5_drop 36 = .ok (.invokevirtual 99, 3) := by decide +kernel
theorem dX5_drop_39 : decode cX5_drop 39 = .ok (.aload_n 0, 1) := by decide +kernel
theorem dX5_drop_40 : decode cX5_drop 40 = .ok (.iload_n 3, 1) := by decide +kernel
theorem dX5_drop_41 : decode cX5_drop 41 = .ok (.invokevirtual 68, 3) := by decide +kernel
theorem dX5_drop_44 : decode cX5_drop 44 = .ok (.ireturn, 1) := by decide +kernel
section O1
variable {G : GG} {z : Nat} {σ : AH} {lf fd : Int32} {rl rn : Nat → Int32} {ri : Nat → Nat → Int32} {tp rd : Nat → Int32} {dd d df : TS} {nx kp : Nat} {da di : Nat → TS} {tr : Nat} {bo ne : Nat → Int32}
theorem x_row_bad (r la n : Int32) (h : ¬ nrI r = 0 ∨ la < 0 ∨ nI 2 < la ∨ nI 40 < n) : Ct G yX5_row cX5_row 4 (some .int) 3 0 0 z σ [.ref 0, .int r, .int la, .int n] (some (.int (-1000001))) z σ := by
  refine Ct.ofJ RX5 rfl [some (.ref 0), some (.int r), some (.int la), some (.int n)] rfl (by decide) Nat.le.refl ?_
  refine j_iload_n dX5_row_0 rfl rfl ?_
  refine j_callS (c_isNoRow r) dX5_row_1 rfl ms_X5_55 ⟨(Nat.le_of_ble_eq_true rfl), (Nat.le_of_ble_eq_true rfl)⟩ ⟨(Nat.le_of_ble_eq_true rfl), (Nat.le_of_ble_eq_true rfl)⟩ (Nat.le_of_ble_eq_true rfl) ?_
  refine j_if_ne 22 dX5_row_4 (by decide) (fun b4 => ?_) (fun b4 => ?_)
  · refine j_ldc (-1000001) dX5_row_22 kc_X5_59 ?_
    exact j_iret rfl dX5_row_24 rfl rfl (Nat.le_of_ble_eq_true rfl) (Nat.le_of_ble_eq_true rfl)
  · refine j_iload_n dX5_row_7 rfl rfl ?_
    refine j_if_lt 22 dX5_row_8 (by decide) (fun b8 => ?_) (fun b8 => ?_)
    · refine j_ldc (-1000001) dX5_row_22 kc_X5_59 ?_
      exact j_iret rfl dX5_row_24 rfl rfl (Nat.le_of_ble_eq_true rfl) (Nat.le_of_ble_eq_true rfl)
    · refine j_iload_n dX5_row_11 rfl rfl ?_
      refine j_iconst (nI 2) dX5_row_12 rfl ?_
      refine j_icmp_gt 22 dX5_row_13 (by decide) (fun b13 => ?_) (fun b13 => ?_)
      · refine j_ldc (-1000001) dX5_row_22 kc_X5_59 ?_
        exact j_iret rfl dX5_row_24 rfl rfl (Nat.le_of_ble_eq_true rfl) (Nat.le_of_ble_eq_true rfl)
      · refine j_iload_n dX5_row_16 rfl rfl ?_
        refine j_bipush (nI 40) dX5_row_17 rfl ?_
        refine j_icmp_le 25 dX5_row_19 (by decide) (fun b19 => ?_) (fun b19 => ?_)
        · exfalso
          rcases h with h | h | h | h
          · exact h b4
          · exact b8 h
          · exact b13 h
          · exact absurd b19 (Int32.not_le.mpr h)
        · refine j_ldc (-1000001) dX5_row_22 kc_X5_59 ?_
          exact j_iret rfl dX5_row_24 rfl rfl (Nat.le_of_ble_eq_true rfl) (Nat.le_of_ble_eq_true rfl)
theorem x_row_size (X : XR σ lf fd rl rn ri tp rd dd d df nx kp da di tr bo ne) {k la : Nat} (n : Int32) (hk : k < 8) (hl : la < 3) (hn : n < 0) : Ct G yX5_row cX5_row 4 (some .int) 3 0 0 z σ [.ref 0, .int (nI k), .int (nI la), .int n] (some (.int (-1000010 - nI 4))) z (ups σ 0 (xO lf (nI 4))) := by
  refine Ct.ofJ RX5 rfl [some (.ref 0), some (.int (nI k)), some (.int (nI la)), some (.int n)] rfl (by decide) Nat.le.refl ?_
  refine j_iload_n dX5_row_0 rfl rfl ?_
  refine j_callS (c_isNoRow (nI k)) dX5_row_1 rfl ms_X5_55 ⟨(Nat.le_of_ble_eq_true rfl), (Nat.le_of_ble_eq_true rfl)⟩ ⟨(Nat.le_of_ble_eq_true rfl), (Nat.le_of_ble_eq_true rfl)⟩ (Nat.le_of_ble_eq_true rfl) ?_
  refine j_top (nI 0) (nrI_k hk) ?_
  refine j_if_ne 22 dX5_row_4 (by decide) (fun h => absurd rfl h) (fun _ => ?_)
  refine j_iload_n dX5_row_7 rfl rfl ?_
  refine j_if_lt 22 dX5_row_8 (by decide) (fun b8 => ?_) (fun b8 => ?_)
  · exact absurd b8 (nI_pos (by omega))
  · refine j_iload_n dX5_row_11 rfl rfl ?_
    refine j_iconst (nI 2) dX5_row_12 rfl ?_
    refine j_icmp_gtN 22 dX5_row_13 (by decide) (by omega) (by omega) (fun b13 => ?_) (fun b13 => ?_)
    · exfalso; omega
    · refine j_iload_n dX5_row_16 rfl rfl ?_
      refine j_bipush (nI 40) dX5_row_17 rfl ?_
      refine j_icmp_le 25 dX5_row_19 (by decide) (fun b19 => ?_) (fun b19 => ?_)
      · refine j_iload_n dX5_row_25 rfl rfl ?_
        refine j_if_ge 35 dX5_row_26 (by decide) (fun b26 => ?_) (fun b26 => ?_)
        · exact absurd hn (Int32.not_lt.mpr b26)
        · refine j_aload_n dX5_row_29 rfl rfl ?_
          refine j_iconst (nI 4) dX5_row_30 rfl ?_
          refine j_callV (c_found X (nI 4)) dX5_row_31 rfl mv_X5_60 (by first | exact X.1 | exact X.2.1 | exact X.2.2.2.1 | exact X.2.2.2.2.1 | exact X.2.2.2.2.2.2.1.o | exact X.2.2.2.2.2.2.1.c | exact X.2.2.2.2.2.2.1.i | exact X.2.2.2.2.2.2.1.p | exact X.2.2.2.2.2.2.1.d | exact X.2.2.2.2.2.2.2.1.o | exact X.2.2.2.2.2.2.2.2.1 | exact X.2.2.2.2.2.2.2.2.2.1 | exact X.2.2.2.2.2.2.2.2.2.2.2.1 | exact X.2.2.2.2.2.2.2.2.2.2.2.2.2.1 | exact X.2.2.2.2.2.2.2.2.2.2.2.2.2.2.1 | exact X.2.2.2.2.2.2.2.2.2.2.2.2.2.2.2) rfl ⟨(Nat.le_of_ble_eq_true rfl), (Nat.le_of_ble_eq_true rfl)⟩ ⟨(Nat.le_of_ble_eq_true rfl), (Nat.le_of_ble_eq_true rfl)⟩ (Nat.le_of_ble_eq_true rfl) ?_
          exact j_iret rfl dX5_row_34 rfl rfl (Nat.le_of_ble_eq_true rfl) (Nat.le_of_ble_eq_true rfl)
      · exact absurd (Int32.le_of_lt (Int32.lt_of_lt_of_le hn (by decide))) b19
theorem x_row_ok (X : XR σ lf fd rl rn ri tp rd dd d df nx kp da di tr bo ne) {k la m : Nat} (hk : k < 8) (hl : la < 3) (hm : m ≤ 40) : Ct G yX5_row cX5_row 4 (some .int) 3 0 0 z σ [.ref 0, .int (nI k), .int (nI la), .int (nI m)] (some (.int (nI m))) z (ups (rw' σ (2 + 2 * k) (fil (nI 0) (ri k) m) (nI la) (nI m)) 0 (xO lf (nI 0))) := by
  refine Ct.ofJ RX5 rfl [some (.ref 0), some (.int (nI k)), some (.int (nI la)), some (.int (nI m))] rfl (by decide) Nat.le.refl ?_
  refine j_iload_n dX5_row_0 rfl rfl ?_
  refine j_callS (c_isNoRow (nI k)) dX5_row_1 rfl ms_X5_55 ⟨(Nat.le_of_ble_eq_true rfl), (Nat.le_of_ble_eq_true rfl)⟩ ⟨(Nat.le_of_ble_eq_true rfl), (Nat.le_of_ble_eq_true rfl)⟩ (Nat.le_of_ble_eq_true rfl) ?_
  refine j_top (nI 0) (nrI_k hk) ?_
  refine j_if_ne 22 dX5_row_4 (by decide) (fun h => absurd rfl h) (fun _ => ?_)
  refine j_iload_n dX5_row_7 rfl rfl ?_
  refine j_if_lt 22 dX5_row_8 (by decide) (fun b8 => ?_) (fun b8 => ?_)
  · exact absurd b8 (nI_pos (by omega))
  · refine j_iload_n dX5_row_11 rfl rfl ?_
    refine j_iconst (nI 2) dX5_row_12 rfl ?_
    refine j_icmp_gtN 22 dX5_row_13 (by decide) (by omega) (by omega) (fun b13 => ?_) (fun b13 => ?_)
    · exfalso; omega
    · refine j_iload_n dX5_row_16 rfl rfl ?_
      refine j_bipush (nI 40) dX5_row_17 rfl ?_
      refine j_icmp_leN 25 dX5_row_19 (by decide) (by omega) (by omega) (fun b19 => ?_) (fun b19 => ?_)
      · refine j_iload_n dX5_row_25 rfl rfl ?_
        refine j_if_ge 35 dX5_row_26 (by decide) (fun b26 => ?_) (fun b26 => ?_)
        · refine j_aload_n dX5_row_35 rfl rfl ?_
          refine j_getf dX5_row_36 5 0 rfl (Nat.le_of_ble_eq_true rfl) fl_X5_11 in_5 (by first | exact X.1 | exact X.2.1 | exact X.2.2.2.1 | exact X.2.2.2.2.1 | exact X.2.2.2.2.2.2.1.o | exact X.2.2.2.2.2.2.1.c | exact X.2.2.2.2.2.2.1.i | exact X.2.2.2.2.2.2.1.p | exact X.2.2.2.2.2.2.1.d | exact X.2.2.2.2.2.2.2.1.o | exact X.2.2.2.2.2.2.2.2.1 | exact X.2.2.2.2.2.2.2.2.2.1 | exact X.2.2.2.2.2.2.2.2.2.2.2.1 | exact X.2.2.2.2.2.2.2.2.2.2.2.2.2.1 | exact X.2.2.2.2.2.2.2.2.2.2.2.2.2.2.1 | exact X.2.2.2.2.2.2.2.2.2.2.2.2.2.2.2) rfl ?_
          refine j_iload_n dX5_row_39 rfl rfl ?_
          refine j_aaldL 3 8 2 2 dX5_row_40 (by first | exact X.1 | exact X.2.1 | exact X.2.2.2.1 | exact X.2.2.2.2.1 | exact X.2.2.2.2.2.2.1.o | exact X.2.2.2.2.2.2.1.c | exact X.2.2.2.2.2.2.1.i | exact X.2.2.2.2.2.2.1.p | exact X.2.2.2.2.2.2.1.d | exact X.2.2.2.2.2.2.2.1.o | exact X.2.2.2.2.2.2.2.2.1 | exact X.2.2.2.2.2.2.2.2.2.1 | exact X.2.2.2.2.2.2.2.2.2.2.2.1 | exact X.2.2.2.2.2.2.2.2.2.2.2.2.2.1 | exact X.2.2.2.2.2.2.2.2.2.2.2.2.2.2.1 | exact X.2.2.2.2.2.2.2.2.2.2.2.2.2.2.2) (by decide) rfl hk (by decide) ?_
          refine j_iload_n dX5_row_41 rfl rfl ?_
          refine j_iload_n dX5_row_42 rfl rfl ?_
          refine j_callV (c_beginR (X.2.2.1 k hk) (nI la) hm) dX5_row_43 rfl mv_X5_64 (X.2.2.1 k hk).o rfl ⟨(Nat.le_of_ble_eq_true rfl), (Nat.le_of_ble_eq_true rfl)⟩ ⟨(Nat.le_of_ble_eq_true rfl), (Nat.le_of_ble_eq_true rfl)⟩ (Nat.le_of_ble_eq_true rfl) ?_
          have X := X.row k hk (fil (nI 0) (ri k) m) (nI la) (nI m)
          refine j_aload_n dX5_row_46 rfl rfl ?_
          refine j_iload_n dX5_row_47 rfl rfl ?_
          refine j_callV (c_foundNothing X (nI m)) dX5_row_48 rfl mv_X5_68 (by first | exact X.1 | exact X.2.1 | exact X.2.2.2.1 | exact X.2.2.2.2.1 | exact X.2.2.2.2.2.2.1.o | exact X.2.2.2.2.2.2.1.c | exact X.2.2.2.2.2.2.1.i | exact X.2.2.2.2.2.2.1.p | exact X.2.2.2.2.2.2.1.d | exact X.2.2.2.2.2.2.2.1.o | exact X.2.2.2.2.2.2.2.2.1 | exact X.2.2.2.2.2.2.2.2.2.1 | exact X.2.2.2.2.2.2.2.2.2.2.2.1 | exact X.2.2.2.2.2.2.2.2.2.2.2.2.2.1 | exact X.2.2.2.2.2.2.2.2.2.2.2.2.2.2.1 | exact X.2.2.2.2.2.2.2.2.2.2.2.2.2.2.2) rfl ⟨(Nat.le_of_ble_eq_true rfl), (Nat.le_of_ble_eq_true rfl)⟩ ⟨(Nat.le_of_ble_eq_true rfl), (Nat.le_of_ble_eq_true rfl)⟩ (Nat.le_of_ble_eq_true rfl) ?_
          exact j_iret rfl dX5_row_51 rfl rfl (Nat.le_of_ble_eq_true rfl) (Nat.le_of_ble_eq_true rfl)
        · exact absurd (nI_pos' (by omega)) b26
      · exfalso; omega
theorem x_set_bad (r i v : Int32) (h : ¬ nrI r = 0) : Ct G yX5_set cX5_set 5 (some .int) 3 0 0 z σ [.ref 0, .int r, .int i, .int v] (some (.int (-1000001))) z σ := by
  refine Ct.ofJ RX5 rfl [some (.ref 0), some (.int r), some (.int i), some (.int v), none] rfl (by decide) (by simp [Value.category]) ?_
  refine j_iload_n dX5_set_0 rfl rfl ?_
  refine j_callS (c_isNoRow r) dX5_set_1 rfl ms_X5_55 ⟨(Nat.le_of_ble_eq_true rfl), (Nat.le_of_ble_eq_true rfl)⟩ ⟨(Nat.le_of_ble_eq_true rfl), (Nat.le_of_ble_eq_true rfl)⟩ (Nat.le_of_ble_eq_true rfl) ?_
  refine j_if_eq 10 dX5_set_4 (by decide) (fun b4 => ?_) (fun b4 => ?_)
  · exact absurd b4 h
  · refine j_ldc (-1000001) dX5_set_7 kc_X5_59 ?_
    exact j_iret rfl dX5_set_9 rfl rfl (Nat.le_of_ble_eq_true rfl) (Nat.le_of_ble_eq_true rfl)
theorem x_set_null (X : XR σ lf fd rl rn ri tp rd dd d df nx kp da di tr bo ne) {k : Nat} (i v : Int32) (hk : k < 8) (hl : rl k = -1) : Ct G yX5_set cX5_set 5 (some .int) 3 0 0 z σ [.ref 0, .int (nI k), .int i, .int v] (some (.int (-1000010 - nI 1))) z (ups σ 0 (xO lf (nI 1))) := by
  refine Ct.ofJ RX5 rfl [some (.ref 0), some (.int (nI k)), some (.int i), some (.int v), none] rfl (by decide) (by simp [Value.category]) ?_
  refine j_iload_n dX5_set_0 rfl rfl ?_
  refine j_callS (c_isNoRow (nI k)) dX5_set_1 rfl ms_X5_55 ⟨(Nat.le_of_ble_eq_true rfl), (Nat.le_of_ble_eq_true rfl)⟩ ⟨(Nat.le_of_ble_eq_true rfl), (Nat.le_of_ble_eq_true rfl)⟩ (Nat.le_of_ble_eq_true rfl) ?_
  refine j_top (nI 0) (nrI_k hk) ?_
  refine j_if_eq 10 dX5_set_4 (by decide) (fun _ => ?_) (fun h => absurd rfl h)
  refine j_aload_n dX5_set_10 rfl rfl ?_
  refine j_getf dX5_set_11 5 0 rfl (Nat.le_of_ble_eq_true rfl) fl_X5_11 in_5 (by first | exact X.1 | exact X.2.1 | exact X.2.2.2.1 | exact X.2.2.2.2.1 | exact X.2.2.2.2.2.2.1.o | exact X.2.2.2.2.2.2.1.c | exact X.2.2.2.2.2.2.1.i | exact X.2.2.2.2.2.2.1.p | exact X.2.2.2.2.2.2.1.d | exact X.2.2.2.2.2.2.2.1.o | exact X.2.2.2.2.2.2.2.2.1 | exact X.2.2.2.2.2.2.2.2.2.1 | exact X.2.2.2.2.2.2.2.2.2.2.2.1 | exact X.2.2.2.2.2.2.2.2.2.2.2.2.2.1 | exact X.2.2.2.2.2.2.2.2.2.2.2.2.2.2.1 | exact X.2.2.2.2.2.2.2.2.2.2.2.2.2.2.2) rfl ?_
  refine j_iload_n dX5_set_14 rfl rfl ?_
  refine j_aaldL 3 8 2 2 dX5_set_15 (by first | exact X.1 | exact X.2.1 | exact X.2.2.2.1 | exact X.2.2.2.2.1 | exact X.2.2.2.2.2.2.1.o | exact X.2.2.2.2.2.2.1.c | exact X.2.2.2.2.2.2.1.i | exact X.2.2.2.2.2.2.1.p | exact X.2.2.2.2.2.2.1.d | exact X.2.2.2.2.2.2.2.1.o | exact X.2.2.2.2.2.2.2.2.1 | exact X.2.2.2.2.2.2.2.2.2.1 | exact X.2.2.2.2.2.2.2.2.2.2.2.1 | exact X.2.2.2.2.2.2.2.2.2.2.2.2.2.1 | exact X.2.2.2.2.2.2.2.2.2.2.2.2.2.2.1 | exact X.2.2.2.2.2.2.2.2.2.2.2.2.2.2.2) (by decide) rfl hk (by decide) ?_
  refine j_astore dX5_set_16 (Nat.le_of_ble_eq_true rfl) rfl ?_
  refine j_aload dX5_set_18 rfl ?_
  refine j_callV (c_isMissingR (X.2.2.1 k hk)) dX5_set_20 rfl mv_X5_71 (X.2.2.1 k hk).o rfl ⟨(Nat.le_of_ble_eq_true rfl), (Nat.le_of_ble_eq_true rfl)⟩ ⟨(Nat.le_of_ble_eq_true rfl), (Nat.le_of_ble_eq_true rfl)⟩ (Nat.le_of_ble_eq_true rfl) ?_
  refine j_top (nI 1) (if_pos hl) ?_
  refine j_if_eq 32 dX5_set_23 (by decide) (fun h => absurd h (by decide)) (fun _ => ?_)
  refine j_aload_n dX5_set_26 rfl rfl ?_
  refine j_iconst (nI 1) dX5_set_27 rfl ?_
  refine j_callV (c_found X (nI 1)) dX5_set_28 rfl mv_X5_60 (by first | exact X.1 | exact X.2.1 | exact X.2.2.2.1 | exact X.2.2.2.2.1 | exact X.2.2.2.2.2.2.1.o | exact X.2.2.2.2.2.2.1.c | exact X.2.2.2.2.2.2.1.i | exact X.2.2.2.2.2.2.1.p | exact X.2.2.2.2.2.2.1.d | exact X.2.2.2.2.2.2.2.1.o | exact X.2.2.2.2.2.2.2.2.1 | exact X.2.2.2.2.2.2.2.2.2.1 | exact X.2.2.2.2.2.2.2.2.2.2.2.1 | exact X.2.2.2.2.2.2.2.2.2.2.2.2.2.1 | exact X.2.2.2.2.2.2.2.2.2.2.2.2.2.2.1 | exact X.2.2.2.2.2.2.2.2.2.2.2.2.2.2.2) rfl ⟨(Nat.le_of_ble_eq_true rfl), (Nat.le_of_ble_eq_true rfl)⟩ ⟨(Nat.le_of_ble_eq_true rfl), (Nat.le_of_ble_eq_true rfl)⟩ (Nat.le_of_ble_eq_true rfl) ?_
  exact j_iret rfl dX5_set_31 rfl rfl (Nat.le_of_ble_eq_true rfl) (Nat.le_of_ble_eq_true rfl)
theorem x_set_place (X : XR σ lf fd rl rn ri tp rd dd d df nx kp da di tr bo ne) {k : Nat} (i v : Int32) (hk : k < 8) (hl : ¬ rl k = -1) (hr : rngI i (nI 1) (rn k) = nI 0) : Ct G yX5_set cX5_set 5 (some .int) 3 0 0 z σ [.ref 0, .int (nI k), .int i, .int v] (some (.int (-1000010 - nI 2))) z (ups σ 0 (xO lf (nI 2))) := by
  refine Ct.ofJ RX5 rfl [some (.ref 0), some (.int (nI k)), some (.int i), some (.int v), none] rfl (by decide) (by simp [Value.category]) ?_
  refine j_iload_n dX5_set_0 rfl rfl ?_
  refine j_callS (c_isNoRow (nI k)) dX5_set_1 rfl ms_X5_55 ⟨(Nat.le_of_ble_eq_true rfl), (Nat.le_of_ble_eq_true rfl)⟩ ⟨(Nat.le_of_ble_eq_true rfl), (Nat.le_of_ble_eq_true rfl)⟩ (Nat.le_of_ble_eq_true rfl) ?_
  refine j_top (nI 0) (nrI_k hk) ?_
  refine j_if_eq 10 dX5_set_4 (by decide) (fun _ => ?_) (fun h => absurd rfl h)
  refine j_aload_n dX5_set_10 rfl rfl ?_
  refine j_getf dX5_set_11 5 0 rfl (Nat.le_of_ble_eq_true rfl) fl_X5_11 in_5 (by first | exact X.1 | exact X.2.1 | exact X.2.2.2.1 | exact X.2.2.2.2.1 | exact X.2.2.2.2.2.2.1.o | exact X.2.2.2.2.2.2.1.c | exact X.2.2.2.2.2.2.1.i | exact X.2.2.2.2.2.2.1.p | exact X.2.2.2.2.2.2.1.d | exact X.2.2.2.2.2.2.2.1.o | exact X.2.2.2.2.2.2.2.2.1 | exact X.2.2.2.2.2.2.2.2.2.1 | exact X.2.2.2.2.2.2.2.2.2.2.2.1 | exact X.2.2.2.2.2.2.2.2.2.2.2.2.2.1 | exact X.2.2.2.2.2.2.2.2.2.2.2.2.2.2.1 | exact X.2.2.2.2.2.2.2.2.2.2.2.2.2.2.2) rfl ?_
  refine j_iload_n dX5_set_14 rfl rfl ?_
  refine j_aaldL 3 8 2 2 dX5_set_15 (by first | exact X.1 | exact X.2.1 | exact X.2.2.2.1 | exact X.2.2.2.2.1 | exact X.2.2.2.2.2.2.1.o | exact X.2.2.2.2.2.2.1.c | exact X.2.2.2.2.2.2.1.i | exact X.2.2.2.2.2.2.1.p | exact X.2.2.2.2.2.2.1.d | exact X.2.2.2.2.2.2.2.1.o | exact X.2.2.2.2.2.2.2.2.1 | exact X.2.2.2.2.2.2.2.2.2.1 | exact X.2.2.2.2.2.2.2.2.2.2.2.1 | exact X.2.2.2.2.2.2.2.2.2.2.2.2.2.1 | exact X.2.2.2.2.2.2.2.2.2.2.2.2.2.2.1 | exact X.2.2.2.2.2.2.2.2.2.2.2.2.2.2.2) (by decide) rfl hk (by decide) ?_
  refine j_astore dX5_set_16 (Nat.le_of_ble_eq_true rfl) rfl ?_
  refine j_aload dX5_set_18 rfl ?_
  refine j_callV (c_isMissingR (X.2.2.1 k hk)) dX5_set_20 rfl mv_X5_71 (X.2.2.1 k hk).o rfl ⟨(Nat.le_of_ble_eq_true rfl), (Nat.le_of_ble_eq_true rfl)⟩ ⟨(Nat.le_of_ble_eq_true rfl), (Nat.le_of_ble_eq_true rfl)⟩ (Nat.le_of_ble_eq_true rfl) ?_
  refine j_top (nI 0) (if_neg hl) ?_
  refine j_if_eq 32 dX5_set_23 (by decide) (fun _ => ?_) (fun h => absurd rfl h)
  refine j_aload dX5_set_32 rfl ?_
  refine j_iload_n dX5_set_34 rfl rfl ?_
  refine j_iconst (nI 1) dX5_set_35 rfl ?_
  refine j_callV (c_hasRangeR (X.2.2.1 k hk) i (nI 1)) dX5_set_36 rfl mv_X5_75 (X.2.2.1 k hk).o rfl ⟨(Nat.le_of_ble_eq_true rfl), (Nat.le_of_ble_eq_true rfl)⟩ ⟨(Nat.le_of_ble_eq_true rfl), (Nat.le_of_ble_eq_true rfl)⟩ (Nat.le_of_ble_eq_true rfl) ?_
  refine j_top (nI 0) hr ?_
  refine j_if_ne 48 dX5_set_39 (by decide) (fun h => absurd rfl h) (fun _ => ?_)
  refine j_aload_n dX5_set_42 rfl rfl ?_
  refine j_iconst (nI 2) dX5_set_43 rfl ?_
  refine j_callV (c_found X (nI 2)) dX5_set_44 rfl mv_X5_60 (by first | exact X.1 | exact X.2.1 | exact X.2.2.2.1 | exact X.2.2.2.2.1 | exact X.2.2.2.2.2.2.1.o | exact X.2.2.2.2.2.2.1.c | exact X.2.2.2.2.2.2.1.i | exact X.2.2.2.2.2.2.1.p | exact X.2.2.2.2.2.2.1.d | exact X.2.2.2.2.2.2.2.1.o | exact X.2.2.2.2.2.2.2.2.1 | exact X.2.2.2.2.2.2.2.2.2.1 | exact X.2.2.2.2.2.2.2.2.2.2.2.1 | exact X.2.2.2.2.2.2.2.2.2.2.2.2.2.1 | exact X.2.2.2.2.2.2.2.2.2.2.2.2.2.2.1 | exact X.2.2.2.2.2.2.2.2.2.2.2.2.2.2.2) rfl ⟨(Nat.le_of_ble_eq_true rfl), (Nat.le_of_ble_eq_true rfl)⟩ ⟨(Nat.le_of_ble_eq_true rfl), (Nat.le_of_ble_eq_true rfl)⟩ (Nat.le_of_ble_eq_true rfl) ?_
  exact j_iret rfl dX5_set_47 rfl rfl (Nat.le_of_ble_eq_true rfl) (Nat.le_of_ble_eq_true rfl)
theorem x_set_ok (X : XR σ lf fd rl rn ri tp rd dd d df nx kp da di tr bo ne) {k j : Nat} (v : Int32) (hk : k < 8) (hl : ¬ rl k = -1) (hr : rngI (nI j) (nI 1) (rn k) = nI 1) (hj : j < 40) : Ct G yX5_set cX5_set 5 (some .int) 3 0 0 z σ [.ref 0, .int (nI k), .int (nI j), .int v] (some (.int (putI (rl k) v))) z (ups (rw' σ (2 + 2 * k) (upd (ri k) j (putI (rl k) v)) (rl k) (rn k)) 0 (xO lf (nI 0))) := by
  refine Ct.ofJ RX5 rfl [some (.ref 0), some (.int (nI k)), some (.int (nI j)), some (.int v), none] rfl (by decide) (by simp [Value.category]) ?_
  refine j_iload_n dX5_set_0 rfl rfl ?_
  refine j_callS (c_isNoRow (nI k)) dX5_set_1 rfl ms_X5_55 ⟨(Nat.le_of_ble_eq_true rfl), (Nat.le_of_ble_eq_true rfl)⟩ ⟨(Nat.le_of_ble_eq_true rfl), (Nat.le_of_ble_eq_true rfl)⟩ (Nat.le_of_ble_eq_true rfl) ?_
  refine j_top (nI 0) (nrI_k hk) ?_
  refine j_if_eq 10 dX5_set_4 (by decide) (fun _ => ?_) (fun h => absurd rfl h)
  refine j_aload_n dX5_set_10 rfl rfl ?_
  refine j_getf dX5_set_11 5 0 rfl (Nat.le_of_ble_eq_true rfl) fl_X5_11 in_5 (by first | exact X.1 | exact X.2.1 | exact X.2.2.2.1 | exact X.2.2.2.2.1 | exact X.2.2.2.2.2.2.1.o | exact X.2.2.2.2.2.2.1.c | exact X.2.2.2.2.2.2.1.i | exact X.2.2.2.2.2.2.1.p | exact X.2.2.2.2.2.2.1.d | exact X.2.2.2.2.2.2.2.1.o | exact X.2.2.2.2.2.2.2.2.1 | exact X.2.2.2.2.2.2.2.2.2.1 | exact X.2.2.2.2.2.2.2.2.2.2.2.1 | exact X.2.2.2.2.2.2.2.2.2.2.2.2.2.1 | exact X.2.2.2.2.2.2.2.2.2.2.2.2.2.2.1 | exact X.2.2.2.2.2.2.2.2.2.2.2.2.2.2.2) rfl ?_
  refine j_iload_n dX5_set_14 rfl rfl ?_
  refine j_aaldL 3 8 2 2 dX5_set_15 (by first | exact X.1 | exact X.2.1 | exact X.2.2.2.1 | exact X.2.2.2.2.1 | exact X.2.2.2.2.2.2.1.o | exact X.2.2.2.2.2.2.1.c | exact X.2.2.2.2.2.2.1.i | exact X.2.2.2.2.2.2.1.p | exact X.2.2.2.2.2.2.1.d | exact X.2.2.2.2.2.2.2.1.o | exact X.2.2.2.2.2.2.2.2.1 | exact X.2.2.2.2.2.2.2.2.2.1 | exact X.2.2.2.2.2.2.2.2.2.2.2.1 | exact X.2.2.2.2.2.2.2.2.2.2.2.2.2.1 | exact X.2.2.2.2.2.2.2.2.2.2.2.2.2.2.1 | exact X.2.2.2.2.2.2.2.2.2.2.2.2.2.2.2) (by decide) rfl hk (by decide) ?_
  refine j_astore dX5_set_16 (Nat.le_of_ble_eq_true rfl) rfl ?_
  refine j_aload dX5_set_18 rfl ?_
  refine j_callV (c_isMissingR (X.2.2.1 k hk)) dX5_set_20 rfl mv_X5_71 (X.2.2.1 k hk).o rfl ⟨(Nat.le_of_ble_eq_true rfl), (Nat.le_of_ble_eq_true rfl)⟩ ⟨(Nat.le_of_ble_eq_true rfl), (Nat.le_of_ble_eq_true rfl)⟩ (Nat.le_of_ble_eq_true rfl) ?_
  refine j_top (nI 0) (if_neg hl) ?_
  refine j_if_eq 32 dX5_set_23 (by decide) (fun _ => ?_) (fun h => absurd rfl h)
  refine j_aload dX5_set_32 rfl ?_
  refine j_iload_n dX5_set_34 rfl rfl ?_
  refine j_iconst (nI 1) dX5_set_35 rfl ?_
  refine j_callV (c_hasRangeR (X.2.2.1 k hk) (nI j) (nI 1)) dX5_set_36 rfl mv_X5_75 (X.2.2.1 k hk).o rfl ⟨(Nat.le_of_ble_eq_true rfl), (Nat.le_of_ble_eq_true rfl)⟩ ⟨(Nat.le_of_ble_eq_true rfl), (Nat.le_of_ble_eq_true rfl)⟩ (Nat.le_of_ble_eq_true rfl) ?_
  refine j_top (nI 1) hr ?_
  refine j_if_ne 48 dX5_set_39 (by decide) (fun _ => ?_) (fun h => absurd h (by decide))
  refine j_aload_n dX5_set_48 rfl rfl ?_
  refine j_aload dX5_set_49 rfl ?_
  refine j_iload_n dX5_set_51 rfl rfl ?_
  refine j_iload_n dX5_set_52 rfl rfl ?_
  refine j_callV (c_putR (X.2.2.1 k hk) v hj) dX5_set_53 rfl mv_X5_79 (X.2.2.1 k hk).o rfl ⟨(Nat.le_of_ble_eq_true rfl), (Nat.le_of_ble_eq_true rfl)⟩ ⟨(Nat.le_of_ble_eq_true rfl), (Nat.le_of_ble_eq_true rfl)⟩ (Nat.le_of_ble_eq_true rfl) ?_
  have X := X.row k hk (upd (ri k) j (putI (rl k) v)) (rl k) (rn k)
  refine j_callV (c_foundNothing X _) dX5_set_56 rfl mv_X5_68 (by first | exact X.1 | exact X.2.1 | exact X.2.2.2.1 | exact X.2.2.2.2.1 | exact X.2.2.2.2.2.2.1.o | exact X.2.2.2.2.2.2.1.c | exact X.2.2.2.2.2.2.1.i | exact X.2.2.2.2.2.2.1.p | exact X.2.2.2.2.2.2.1.d | exact X.2.2.2.2.2.2.2.1.o | exact X.2.2.2.2.2.2.2.2.1 | exact X.2.2.2.2.2.2.2.2.2.1 | exact X.2.2.2.2.2.2.2.2.2.2.2.1 | exact X.2.2.2.2.2.2.2.2.2.2.2.2.2.1 | exact X.2.2.2.2.2.2.2.2.2.2.2.2.2.2.1 | exact X.2.2.2.2.2.2.2.2.2.2.2.2.2.2.2) rfl ⟨(Nat.le_of_ble_eq_true rfl), (Nat.le_of_ble_eq_true rfl)⟩ ⟨(Nat.le_of_ble_eq_true rfl), (Nat.le_of_ble_eq_true rfl)⟩ (Nat.le_of_ble_eq_true rfl) ?_
  exact j_iret rfl dX5_set_59 rfl rfl (Nat.le_of_ble_eq_true rfl) (Nat.le_of_ble_eq_true rfl)
theorem x_drop_bad (r : Int32) (h : ¬ nrI r = 0) : Ct G yX5_drop cX5_drop 4 (some .int) 3 0 0 z σ [.ref 0, .int r] (some (.int (-1000001))) z σ := by
  refine Ct.ofJ RX5 rfl [some (.ref 0), some (.int r), none, none] rfl (by decide) (by simp [Value.category]) ?_
  refine j_iload_n dX5_drop_0 rfl rfl ?_
  refine j_callS (c_isNoRow r) dX5_drop_1 rfl ms_X5_55 ⟨(Nat.le_of_ble_eq_true rfl), (Nat.le_of_ble_eq_true rfl)⟩ ⟨(Nat.le_of_ble_eq_true rfl), (Nat.le_of_ble_eq_true rfl)⟩ (Nat.le_of_ble_eq_true rfl) ?_
  refine j_if_eq 10 dX5_drop_4 (by decide) (fun b4 => ?_) (fun b4 => ?_)
  · exact absurd b4 h
  · refine j_ldc (-1000001) dX5_drop_7 kc_X5_59 ?_
    exact j_iret rfl dX5_drop_9 rfl rfl (Nat.le_of_ble_eq_true rfl) (Nat.le_of_ble_eq_true rfl)
theorem x_drop_null (X : XR σ lf fd rl rn ri tp rd dd d df nx kp da di tr bo ne) {k : Nat} (hk : k < 8) (hl : rl k = -1) : Ct G yX5_drop cX5_drop 4 (some .int) 3 0 0 z σ [.ref 0, .int (nI k)] (some (.int (-1000010 - nI 1))) z (ups σ 0 (xO lf (nI 1))) := by
  refine Ct.ofJ RX5 rfl [some (.ref 0), some (.int (nI k)), none, none] rfl (by decide) (by simp [Value.category]) ?_
  refine j_iload_n dX5_drop_0 rfl rfl ?_
  refine j_callS (c_isNoRow (nI k)) dX5_drop_1 rfl ms_X5_55 ⟨(Nat.le_of_ble_eq_true rfl), (Nat.le_of_ble_eq_true rfl)⟩ ⟨(Nat.le_of_ble_eq_true rfl), (Nat.le_of_ble_eq_true rfl)⟩ (Nat.le_of_ble_eq_true rfl) ?_
  refine j_top (nI 0) (nrI_k hk) ?_
  refine j_if_eq 10 dX5_drop_4 (by decide) (fun _ => ?_) (fun h => absurd rfl h)
  refine j_aload_n dX5_drop_10 rfl rfl ?_
  refine j_getf dX5_drop_11 5 0 rfl (Nat.le_of_ble_eq_true rfl) fl_X5_11 in_5 (by first | exact X.1 | exact X.2.1 | exact X.2.2.2.1 | exact X.2.2.2.2.1 | exact X.2.2.2.2.2.2.1.o | exact X.2.2.2.2.2.2.1.c | exact X.2.2.2.2.2.2.1.i | exact X.2.2.2.2.2.2.1.p | exact X.2.2.2.2.2.2.1.d | exact X.2.2.2.2.2.2.2.1.o | exact X.2.2.2.2.2.2.2.2.1 | exact X.2.2.2.2.2.2.2.2.2.1 | exact X.2.2.2.2.2.2.2.2.2.2.2.1 | exact X.2.2.2.2.2.2.2.2.2.2.2.2.2.1 | exact X.2.2.2.2.2.2.2.2.2.2.2.2.2.2.1 | exact X.2.2.2.2.2.2.2.2.2.2.2.2.2.2.2) rfl ?_
  refine j_iload_n dX5_drop_14 rfl rfl ?_
  refine j_aaldL 3 8 2 2 dX5_drop_15 (by first | exact X.1 | exact X.2.1 | exact X.2.2.2.1 | exact X.2.2.2.2.1 | exact X.2.2.2.2.2.2.1.o | exact X.2.2.2.2.2.2.1.c | exact X.2.2.2.2.2.2.1.i | exact X.2.2.2.2.2.2.1.p | exact X.2.2.2.2.2.2.1.d | exact X.2.2.2.2.2.2.2.1.o | exact X.2.2.2.2.2.2.2.2.1 | exact X.2.2.2.2.2.2.2.2.2.1 | exact X.2.2.2.2.2.2.2.2.2.2.2.1 | exact X.2.2.2.2.2.2.2.2.2.2.2.2.2.1 | exact X.2.2.2.2.2.2.2.2.2.2.2.2.2.2.1 | exact X.2.2.2.2.2.2.2.2.2.2.2.2.2.2.2) (by decide) rfl hk (by decide) ?_
  refine j_astore_n dX5_drop_16 rfl (Nat.le_of_ble_eq_true rfl) rfl ?_
  refine j_aload_n dX5_drop_17 rfl rfl ?_
  refine j_callV (c_isMissingR (X.2.2.1 k hk)) dX5_drop_18 rfl mv_X5_71 (X.2.2.1 k hk).o rfl ⟨(Nat.le_of_ble_eq_true rfl), (Nat.le_of_ble_eq_true rfl)⟩ ⟨(Nat.le_of_ble_eq_true rfl), (Nat.le_of_ble_eq_true rfl)⟩ (Nat.le_of_ble_eq_true rfl) ?_
  refine j_top (nI 1) (if_pos hl) ?_
  refine j_if_eq 30 dX5_drop_21 (by decide) (fun h => absurd h (by decide)) (fun _ => ?_)
  refine j_aload_n dX5_drop_24 rfl rfl ?_
  refine j_iconst (nI 1) dX5_drop_25 rfl ?_
  refine j_callV (c_found X (nI 1)) dX5_drop_26 rfl mv_X5_60 (by first | exact X.1 | exact X.2.1 | exact X.2.2.2.1 | exact X.2.2.2.2.1 | exact X.2.2.2.2.2.2.1.o | exact X.2.2.2.2.2.2.1.c | exact X.2.2.2.2.2.2.1.i | exact X.2.2.2.2.2.2.1.p | exact X.2.2.2.2.2.2.1.d | exact X.2.2.2.2.2.2.2.1.o | exact X.2.2.2.2.2.2.2.2.1 | exact X.2.2.2.2.2.2.2.2.2.1 | exact X.2.2.2.2.2.2.2.2.2.2.2.1 | exact X.2.2.2.2.2.2.2.2.2.2.2.2.2.1 | exact X.2.2.2.2.2.2.2.2.2.2.2.2.2.2.1 | exact X.2.2.2.2.2.2.2.2.2.2.2.2.2.2.2) rfl ⟨(Nat.le_of_ble_eq_true rfl), (Nat.le_of_ble_eq_true rfl)⟩ ⟨(Nat.le_of_ble_eq_true rfl), (Nat.le_of_ble_eq_true rfl)⟩ (Nat.le_of_ble_eq_true rfl) ?_
  exact j_iret rfl dX5_drop_29 rfl rfl (Nat.le_of_ble_eq_true rfl) (Nat.le_of_ble_eq_true rfl)
theorem x_drop_ok (X : XR σ lf fd rl rn ri tp rd dd d df nx kp da di tr bo ne) {k : Nat} (hk : k < 8) (hl : ¬ rl k = -1) : Ct G yX5_drop cX5_drop 4 (some .int) 3 0 0 z σ [.ref 0, .int (nI k)] (some (.int (rn k))) z (ups (rw' σ (2 + 2 * k) (ri k) (-1) (nI 0)) 0 (xO lf (nI 0))) := by
  refine Ct.ofJ RX5 rfl [some (.ref 0), some (.int (nI k)), none, none] rfl (by decide) (by simp [Value.category]) ?_
  refine j_iload_n dX5_drop_0 rfl rfl ?_
  refine j_callS (c_isNoRow (nI k)) dX5_drop_1 rfl ms_X5_55 ⟨(Nat.le_of_ble_eq_true rfl), (Nat.le_of_ble_eq_true rfl)⟩ ⟨(Nat.le_of_ble_eq_true rfl), (Nat.le_of_ble_eq_true rfl)⟩ (Nat.le_of_ble_eq_true rfl) ?_
  refine j_top (nI 0) (nrI_k hk) ?_
  refine j_if_eq 10 dX5_drop_4 (by decide) (fun _ => ?_) (fun h => absurd rfl h)
  refine j_aload_n dX5_drop_10 rfl rfl ?_
  refine j_getf dX5_drop_11 5 0 rfl (Nat.le_of_ble_eq_true rfl) fl_X5_11 in_5 (by first | exact X.1 | exact X.2.1 | exact X.2.2.2.1 | exact X.2.2.2.2.1 | exact X.2.2.2.2.2.2.1.o | exact X.2.2.2.2.2.2.1.c | exact X.2.2.2.2.2.2.1.i | exact X.2.2.2.2.2.2.1.p | exact X.2.2.2.2.2.2.1.d | exact X.2.2.2.2.2.2.2.1.o | exact X.2.2.2.2.2.2.2.2.1 | exact X.2.2.2.2.2.2.2.2.2.1 | exact X.2.2.2.2.2.2.2.2.2.2.2.1 | exact X.2.2.2.2.2.2.2.2.2.2.2.2.2.1 | exact X.2.2.2.2.2.2.2.2.2.2.2.2.2.2.1 | exact X.2.2.2.2.2.2.2.2.2.2.2.2.2.2.2) rfl ?_
  refine j_iload_n dX5_drop_14 rfl rfl ?_
  refine j_aaldL 3 8 2 2 dX5_drop_15 (by first | exact X.1 | exact X.2.1 | exact X.2.2.2.1 | exact X.2.2.2.2.1 | exact X.2.2.2.2.2.2.1.o | exact X.2.2.2.2.2.2.1.c | exact X.2.2.2.2.2.2.1.i | exact X.2.2.2.2.2.2.1.p | exact X.2.2.2.2.2.2.1.d | exact X.2.2.2.2.2.2.2.1.o | exact X.2.2.2.2.2.2.2.2.1 | exact X.2.2.2.2.2.2.2.2.2.1 | exact X.2.2.2.2.2.2.2.2.2.2.2.1 | exact X.2.2.2.2.2.2.2.2.2.2.2.2.2.1 | exact X.2.2.2.2.2.2.2.2.2.2.2.2.2.2.1 | exact X.2.2.2.2.2.2.2.2.2.2.2.2.2.2.2) (by decide) rfl hk (by decide) ?_
  refine j_astore_n dX5_drop_16 rfl (Nat.le_of_ble_eq_true rfl) rfl ?_
  refine j_aload_n dX5_drop_17 rfl rfl ?_
  refine j_callV (c_isMissingR (X.2.2.1 k hk)) dX5_drop_18 rfl mv_X5_71 (X.2.2.1 k hk).o rfl ⟨(Nat.le_of_ble_eq_true rfl), (Nat.le_of_ble_eq_true rfl)⟩ ⟨(Nat.le_of_ble_eq_true rfl), (Nat.le_of_ble_eq_true rfl)⟩ (Nat.le_of_ble_eq_true rfl) ?_
  refine j_top (nI 0) (if_neg hl) ?_
  refine j_if_eq 30 dX5_drop_21 (by decide) (fun _ => ?_) (fun h => absurd rfl h)
  refine j_aload_n dX5_drop_30 rfl rfl ?_
  refine j_getf dX5_drop_31 3 2 rfl (Nat.le_of_ble_eq_true rfl) fl_X5_96 in_3 (X.2.2.1 k hk).o rfl ?_
  refine j_istore_n dX5_drop_34 rfl (Nat.le_of_ble_eq_true rfl) rfl ?_
  refine j_aload_n dX5_drop_35 rfl rfl ?_
  refine j_callV (c_vanishR (X.2.2.1 k hk)) dX5_drop_36 rfl mv_X5_99 (X.2.2.1 k hk).o rfl ⟨(Nat.le_of_ble_eq_true rfl), (Nat.le_of_ble_eq_true rfl)⟩ ⟨(Nat.le_of_ble_eq_true rfl), (Nat.le_of_ble_eq_true rfl)⟩ (Nat.le_of_ble_eq_true rfl) ?_
  have X := X.row k hk (ri k) (-1) (nI 0)
  refine j_aload_n dX5_drop_39 rfl rfl ?_
  refine j_iload_n dX5_drop_40 rfl rfl ?_
  refine j_callV (c_foundNothing X _) dX5_drop_41 rfl mv_X5_68 (by first | exact X.1 | exact X.2.1 | exact X.2.2.2.1 | exact X.2.2.2.2.1 | exact X.2.2.2.2.2.2.1.o | exact X.2.2.2.2.2.2.1.c | exact X.2.2.2.2.2.2.1.i | exact X.2.2.2.2.2.2.1.p | exact X.2.2.2.2.2.2.1.d | exact X.2.2.2.2.2.2.2.1.o | exact X.2.2.2.2.2.2.2.2.1 | exact X.2.2.2.2.2.2.2.2.2.1 | exact X.2.2.2.2.2.2.2.2.2.2.2.1 | exact X.2.2.2.2.2.2.2.2.2.2.2.2.2.1 | exact X.2.2.2.2.2.2.2.2.2.2.2.2.2.2.1 | exact X.2.2.2.2.2.2.2.2.2.2.2.2.2.2.2) rfl ⟨(Nat.le_of_ble_eq_true rfl), (Nat.le_of_ble_eq_true rfl)⟩ ⟨(Nat.le_of_ble_eq_true rfl), (Nat.le_of_ble_eq_true rfl)⟩ (Nat.le_of_ble_eq_true rfl) ?_
  exact j_iret rfl dX5_drop_44 rfl rfl (Nat.le_of_ble_eq_true rfl) (Nat.le_of_ble_eq_true rfl)
end O1

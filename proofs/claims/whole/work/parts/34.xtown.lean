/-! THE CLASS's call: town itself -/
def rdF (len : Nat) (r : RS) (k : Nat) : Int32 := match k with
  | 0 => nI len
  | 1 => nI r.1
  | 2 => nI r.2.1
  | 3 => nI r.2.2.1
  | 4 => r.2.2.2.1
  | 5 => r.2.2.2.2.1
  | _ => r.2.2.2.2.2
section K8
variable {G : GG} {z : Nat} {σ : AH} {lf fd : Int32} {rl rn : Nat → Int32} {ri : Nat → Nat → Int32} {tp : Nat → Int32} {len : Nat} {r : RS} {dd d df : TS} {nx kp : Nat} {da di : Nat → TS} {tr : Nat} {bo ne : Nat → Int32}
theorem RHr_self (X : XR σ lf fd rl rn ri tp (rdF len r) dd d df nx kp da di tr bo ne) : RHr σ len r dd = σ := by
  show ups (twS σ 20 dd) 18 (xRd len r.1 r.2.1 r.2.2.1 r.2.2.2.1 r.2.2.2.2.1 r.2.2.2.2.2) = σ
  rw [show twS σ 20 dd = σ from X.2.2.2.2.2.1]
  exact ups_self X.2.2.2.1
theorem x_town_bad (X : XR σ lf fd rl rn ri tp (rdF len r) dd d df nx kp da di tr bo ne) (hs : sOK r) (hl : len ≤ 400) (h : (rTown tp len r dd).1 = false) : Ct G yX5_town cX5_town 2 (some .int) 10 0 0 z σ [.ref 0] (some (.int (-1000100 - nI (rTown tp len r dd).2.1.2.1))) z (ups (RHr σ 0 (rTown tp len r dd).2.1 (rTown tp len r dd).2.2) 0 (xO (rTown tp len r dd).2.1.2.2.2.2.2 fd)) := by
  refine Ct.ofJ RX5 rfl [some (.ref 0), none] rfl (by decide) (by simp [Value.category]) ?_
  have cr := c_readsTown (G := G) (z := z) (s := dd) X.2.2.2.2.1 hs hl
  rw [RHr_self X, h] at cr
  have X1 : XR (RHr σ len (rTown tp len r dd).2.1 (rTown tp len r dd).2.2) lf fd rl rn ri tp (rdF len (rTown tp len r dd).2.1) (rTown tp len r dd).2.2 d df nx kp da di tr bo ne := (X.draft (rTown tp len r dd).2.2).rdr (rdF len (rTown tp len r dd).2.1)
  have X2 : XR (RHr σ 0 (rTown tp len r dd).2.1 (rTown tp len r dd).2.2) lf fd rl rn ri tp (rdF 0 (rTown tp len r dd).2.1) (rTown tp len r dd).2.2 d df nx kp da di tr bo ne := (X.draft (rTown tp len r dd).2.2).rdr (rdF 0 (rTown tp len r dd).2.1)
  refine j_aload_n dX5_town_0 rfl rfl ?_
  refine j_getf dX5_town_1 5 1 rfl (Nat.le_of_ble_eq_true rfl) fl_X5_19 in_5 (by first | exact X.1 | exact X.2.2.2.1 | exact X.2.2.2.2.2.2.1.o | exact X.2.2.2.2.2.2.2.2.1) rfl ?_
  refine j_callV cr dX5_town_4 rfl mv_X5_108 (by first | exact X.1 | exact X.2.2.2.1 | exact X.2.2.2.2.2.2.1.o | exact X.2.2.2.2.2.2.2.2.1) rfl ⟨(Nat.le_of_ble_eq_true rfl), (Nat.le_of_ble_eq_true rfl)⟩ ⟨(Nat.le_of_ble_eq_true rfl), (Nat.le_of_ble_eq_true rfl)⟩ (Nat.le_of_ble_eq_true rfl) ?_
  have X := X1
  refine j_istore_n dX5_town_7 rfl (Nat.le_of_ble_eq_true rfl) rfl ?_
  refine j_aload_n dX5_town_8 rfl rfl ?_
  refine j_getf dX5_town_9 5 1 rfl (Nat.le_of_ble_eq_true rfl) fl_X5_19 in_5 (by first | exact X.1 | exact X.2.2.2.1 | exact X.2.2.2.2.2.2.1.o | exact X.2.2.2.2.2.2.2.2.1) rfl ?_
  refine j_iconst (nI 0) dX5_town_12 rfl ?_
  refine j_putf dX5_town_13 2 2 rfl (Nat.le_of_ble_eq_true rfl) fl_X5_102 in_2 tyX2 tyX2_ok nmX2 rfl rfl (by first | exact X.1 | exact X.2.2.2.1 | exact X.2.2.2.2.2.2.1.o | exact X.2.2.2.2.2.2.2.2.1) (Nat.le_of_ble_eq_true rfl) _ (show _ = RHr σ 0 (rTown tp len r dd).2.1 (rTown tp len r dd).2.2 from ups_ups) ?_
  have X := X2
  refine j_iload_n dX5_town_16 rfl rfl ?_
  refine j_top (nI 0) rfl ?_
  refine j_if_ne 42 dX5_town_17 (by decide) (fun h => absurd rfl h) (fun _ => ?_)
  refine j_aload_n dX5_town_20 rfl rfl ?_
  refine j_aload_n dX5_town_21 rfl rfl ?_
  refine j_getf dX5_town_22 5 1 rfl (Nat.le_of_ble_eq_true rfl) fl_X5_19 in_5 (by first | exact X.1 | exact X.2.2.2.1 | exact X.2.2.2.2.2.2.1.o | exact X.2.2.2.2.2.2.2.2.1) rfl ?_
  refine j_getf dX5_town_25 2 8 rfl (Nat.le_of_ble_eq_true rfl) fl_X5_111 in_2 (by first | exact X.1 | exact X.2.2.2.1 | exact X.2.2.2.2.2.2.1.o | exact X.2.2.2.2.2.2.2.2.1) rfl ?_
  refine j_putf dX5_town_28 5 2 rfl (Nat.le_of_ble_eq_true rfl) fl_X5_114 in_5 tyX5 tyX5_ok nmX5 rfl rfl (by first | exact X.1 | exact X.2.2.2.1 | exact X.2.2.2.2.2.2.1.o | exact X.2.2.2.2.2.2.2.2.1) (Nat.le_of_ble_eq_true rfl) _ rfl ?_
  have X := X2.obj (rTown tp len r dd).2.1.2.2.2.2.2 fd
  refine j_ldc (-1000100) dX5_town_31 kc_X5_117 ?_
  refine j_aload_n dX5_town_33 rfl rfl ?_
  refine j_getf dX5_town_34 5 1 rfl (Nat.le_of_ble_eq_true rfl) fl_X5_19 in_5 (by first | exact X.1 | exact X.2.2.2.1 | exact X.2.2.2.2.2.2.1.o | exact X.2.2.2.2.2.2.2.2.1) rfl ?_
  refine j_getf dX5_town_37 2 4 rfl (Nat.le_of_ble_eq_true rfl) fl_X5_118 in_2 (by first | exact X.1 | exact X.2.2.2.1 | exact X.2.2.2.2.2.2.1.o | exact X.2.2.2.2.2.2.2.2.1) rfl ?_
  refine j_isub dX5_town_40 ?_
  exact j_iret rfl dX5_town_41 rfl rfl (Nat.le_of_ble_eq_true rfl) (Nat.le_of_ble_eq_true rfl)
theorem x_town_ok (X : XR σ lf fd rl rn ri tp (rdF len r) dd d df nx kp da di tr bo ne) (hs : sOK r) (hl : len ≤ 400) (h : (rTown tp len r dd).1 = true) : Ct G yX5_town cX5_town 2 (some .int) 10 0 0 z σ [.ref 0] (some (.int (nI (sN (rTown tp len r dd).2.2)))) z (ups (twS (RHr σ 0 (rTown tp len r dd).2.1 (rTown tp len r dd).2.2) 25 (rTown tp len r dd).2.2) 35 (xA 0 0)) := by
  refine Ct.ofJ RX5 rfl [some (.ref 0), none] rfl (by decide) (by simp [Value.category]) ?_
  have cr := c_readsTown (G := G) (z := z) (s := dd) X.2.2.2.2.1 hs hl
  rw [RHr_self X, h] at cr
  have X1 : XR (RHr σ len (rTown tp len r dd).2.1 (rTown tp len r dd).2.2) lf fd rl rn ri tp (rdF len (rTown tp len r dd).2.1) (rTown tp len r dd).2.2 d df nx kp da di tr bo ne := (X.draft (rTown tp len r dd).2.2).rdr (rdF len (rTown tp len r dd).2.1)
  have X2 : XR (RHr σ 0 (rTown tp len r dd).2.1 (rTown tp len r dd).2.2) lf fd rl rn ri tp (rdF 0 (rTown tp len r dd).2.1) (rTown tp len r dd).2.2 d df nx kp da di tr bo ne := (X.draft (rTown tp len r dd).2.2).rdr (rdF 0 (rTown tp len r dd).2.1)
  refine j_aload_n dX5_town_0 rfl rfl ?_
  refine j_getf dX5_town_1 5 1 rfl (Nat.le_of_ble_eq_true rfl) fl_X5_19 in_5 (by first | exact X.1 | exact X.2.2.2.1 | exact X.2.2.2.2.2.2.1.o | exact X.2.2.2.2.2.2.2.2.1) rfl ?_
  refine j_callV cr dX5_town_4 rfl mv_X5_108 (by first | exact X.1 | exact X.2.2.2.1 | exact X.2.2.2.2.2.2.1.o | exact X.2.2.2.2.2.2.2.2.1) rfl ⟨(Nat.le_of_ble_eq_true rfl), (Nat.le_of_ble_eq_true rfl)⟩ ⟨(Nat.le_of_ble_eq_true rfl), (Nat.le_of_ble_eq_true rfl)⟩ (Nat.le_of_ble_eq_true rfl) ?_
  have X := X1
  refine j_istore_n dX5_town_7 rfl (Nat.le_of_ble_eq_true rfl) rfl ?_
  refine j_aload_n dX5_town_8 rfl rfl ?_
  refine j_getf dX5_town_9 5 1 rfl (Nat.le_of_ble_eq_true rfl) fl_X5_19 in_5 (by first | exact X.1 | exact X.2.2.2.1 | exact X.2.2.2.2.2.2.1.o | exact X.2.2.2.2.2.2.2.2.1) rfl ?_
  refine j_iconst (nI 0) dX5_town_12 rfl ?_
  refine j_putf dX5_town_13 2 2 rfl (Nat.le_of_ble_eq_true rfl) fl_X5_102 in_2 tyX2 tyX2_ok nmX2 rfl rfl (by first | exact X.1 | exact X.2.2.2.1 | exact X.2.2.2.2.2.2.1.o | exact X.2.2.2.2.2.2.2.2.1) (Nat.le_of_ble_eq_true rfl) _ (show _ = RHr σ 0 (rTown tp len r dd).2.1 (rTown tp len r dd).2.2 from ups_ups) ?_
  have X := X2
  refine j_iload_n dX5_town_16 rfl rfl ?_
  refine j_top (nI 1) rfl ?_
  refine j_if_ne 42 dX5_town_17 (by decide) (fun _ => ?_) (fun h => absurd h (by decide))
  refine j_aload_n dX5_town_42 rfl rfl ?_
  refine j_getf dX5_town_43 5 4 rfl (Nat.le_of_ble_eq_true rfl) fl_X5_26 in_5 (by first | exact X.1 | exact X.2.2.2.1 | exact X.2.2.2.2.2.2.1.o | exact X.2.2.2.2.2.2.2.2.1) rfl ?_
  refine j_aload_n dX5_town_46 rfl rfl ?_
  refine j_getf dX5_town_47 5 1 rfl (Nat.le_of_ble_eq_true rfl) fl_X5_19 in_5 (by first | exact X.1 | exact X.2.2.2.1 | exact X.2.2.2.2.2.2.1.o | exact X.2.2.2.2.2.2.2.2.1) rfl ?_
  refine j_getf dX5_town_50 2 1 rfl (Nat.le_of_ble_eq_true rfl) fl_X5_121 in_2 (by first | exact X.1 | exact X.2.2.2.1 | exact X.2.2.2.2.2.2.1.o | exact X.2.2.2.2.2.2.2.2.1) rfl ?_
  refine j_callV (c_becomesS X.2.2.2.2.2.2.1 X.2.2.2.2.2.1 (Or.inl (by omega))) dX5_town_53 rfl mv_X5_124 (by first | exact X.1 | exact X.2.2.2.1 | exact X.2.2.2.2.2.2.1.o | exact X.2.2.2.2.2.2.2.2.1) rfl ⟨(Nat.le_of_ble_eq_true rfl), (Nat.le_of_ble_eq_true rfl)⟩ ⟨(Nat.le_of_ble_eq_true rfl), (Nat.le_of_ble_eq_true rfl)⟩ (Nat.le_of_ble_eq_true rfl) ?_
  have X := X2.town (rTown tp len r dd).2.2
  refine j_aload_n dX5_town_56 rfl rfl ?_
  refine j_getf dX5_town_57 5 6 rfl (Nat.le_of_ble_eq_true rfl) fl_X5_36 in_5 (by first | exact X.1 | exact X.2.2.2.1 | exact X.2.2.2.2.2.2.1.o | exact X.2.2.2.2.2.2.2.2.1) rfl ?_
  refine j_callV (c_forgetAll _ _ _ X.2.2.2.2.2.2.2.2.1) dX5_town_60 rfl mv_X5_128 (by first | exact X.1 | exact X.2.2.2.1 | exact X.2.2.2.2.2.2.1.o | exact X.2.2.2.2.2.2.2.2.1) rfl ⟨(Nat.le_of_ble_eq_true rfl), (Nat.le_of_ble_eq_true rfl)⟩ ⟨(Nat.le_of_ble_eq_true rfl), (Nat.le_of_ble_eq_true rfl)⟩ (Nat.le_of_ble_eq_true rfl) ?_
  have X := X.acts 0 0
  refine j_aload_n dX5_town_63 rfl rfl ?_
  refine j_getf dX5_town_64 5 4 rfl (Nat.le_of_ble_eq_true rfl) fl_X5_26 in_5 (by first | exact X.1 | exact X.2.2.2.1 | exact X.2.2.2.2.2.2.1.o | exact X.2.2.2.2.2.2.2.2.1) rfl ?_
  refine j_getf dX5_town_67 4 4 rfl (Nat.le_of_ble_eq_true rfl) fl_X5_131 in_4 (by first | exact X.1 | exact X.2.2.2.1 | exact X.2.2.2.2.2.2.1.o | exact X.2.2.2.2.2.2.2.2.1) rfl ?_
  exact j_iret rfl dX5_town_70 rfl rfl (Nat.le_of_ble_eq_true rfl) (Nat.le_of_ble_eq_true rfl)
end K8

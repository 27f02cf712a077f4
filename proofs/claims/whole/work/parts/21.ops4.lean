section O4
variable {G : GG} {z : Nat} {σ : AH} {lf fd : Int32} {rl rn : Nat → Int32} {ri : Nat → Nat → Int32} {tp rd : Nat → Int32} {dd d df : TS} {nx kp : Nat} {da di : Nat → TS} {tr : Nat} {bo ne : Nat → Int32}
theorem x_image_bad (X : XR σ lf fd rl rn ri tp rd dd d df nx kp da di tr bo ne) (k : Int32) (h : k < 0 ∨ ¬ k < nI 2) : Ct G yX5_image cX5_image 2 (some .int) 2 0 0 z σ [.ref 0, .int k] (some (.int (-1000001))) z σ := by
  refine Ct.ofJ RX5 rfl [some (.ref 0), some (.int k)] rfl (by decide) Nat.le.refl ?_
  refine j_iload_n dX5_image_0 rfl rfl ?_
  refine j_if_lt 9 dX5_image_1 (by decide) (fun b1 => ?_) (fun b1 => ?_)
  · refine j_ldc (-1000001) dX5_image_9 kc_X5_59 ?_
    exact j_iret rfl dX5_image_11 rfl rfl (Nat.le_of_ble_eq_true rfl) (Nat.le_of_ble_eq_true rfl)
  · refine j_iload_n dX5_image_4 rfl rfl ?_
    refine j_iconst (nI 2) dX5_image_5 rfl ?_
    refine j_icmp_lt 12 dX5_image_6 (by decide) (fun b6 => ?_) (fun b6 => ?_)
    · exact absurd h (fun q => q.elim b1 (fun w => w b6))
    · refine j_ldc (-1000001) dX5_image_9 kc_X5_59 ?_
      exact j_iret rfl dX5_image_11 rfl rfl (Nat.le_of_ble_eq_true rfl) (Nat.le_of_ble_eq_true rfl)
theorem x_image_state (X : XR σ lf fd rl rn ri tp rd dd d df nx kp da di tr bo ne) {k : Nat} (hk : k < 2) (h : sN d = 0) : Ct G yX5_image cX5_image 2 (some .int) 2 0 0 z σ [.ref 0, .int (nI k)] (some (.int (-1000002))) z σ := by
  refine Ct.ofJ RX5 rfl [some (.ref 0), some (.int (nI k))] rfl (by decide) Nat.le.refl ?_
  refine j_iload_n dX5_image_0 rfl rfl ?_
  refine j_if_lt 9 dX5_image_1 (by decide) (fun b1 => by exact absurd b1 (nI_pos (by omega))) (fun b1 => ?_)
  refine j_iload_n dX5_image_4 rfl rfl ?_
  refine j_iconst (nI 2) dX5_image_5 rfl ?_
  refine j_icmp_ltN 12 dX5_image_6 (by decide) (by omega) (by omega) (fun b6 => ?_) (fun b6 => by exfalso; omega)
  refine j_aload_n dX5_image_12 rfl rfl ?_
  refine j_callV (c_isNoTown X) dX5_image_13 rfl mv_X5_170 (by first | exact X.1 | exact X.2.1 | exact X.2.2.2.1 | exact X.2.2.2.2.1 | exact X.2.2.2.2.2.2.1.o | exact X.2.2.2.2.2.2.1.c | exact X.2.2.2.2.2.2.1.i | exact X.2.2.2.2.2.2.1.p | exact X.2.2.2.2.2.2.1.d | exact X.2.2.2.2.2.2.2.1.o | exact X.2.2.2.2.2.2.2.2.1 | exact X.2.2.2.2.2.2.2.2.2.1 | exact X.2.2.2.2.2.2.2.2.2.2.2.1 | exact X.2.2.2.2.2.2.2.2.2.2.2.2.2.1 | exact X.2.2.2.2.2.2.2.2.2.2.2.2.2.2.1 | exact X.2.2.2.2.2.2.2.2.2.2.2.2.2.2.2) rfl ⟨(Nat.le_of_ble_eq_true rfl), (Nat.le_of_ble_eq_true rfl)⟩ ⟨(Nat.le_of_ble_eq_true rfl), (Nat.le_of_ble_eq_true rfl)⟩ (Nat.le_of_ble_eq_true rfl) ?_
  refine j_top (nI 1) (by rw [h]; rfl) ?_
  refine j_if_eq 22 dX5_image_16 (by decide) (fun h => absurd h (by decide)) (fun _ => ?_)
  refine j_ldc (-1000002) dX5_image_19 kc_X5_140 ?_
  exact j_iret rfl dX5_image_21 rfl rfl (Nat.le_of_ble_eq_true rfl) (Nat.le_of_ble_eq_true rfl)
theorem x_image_ok (X : XR σ lf fd rl rn ri tp rd dd d df nx kp da di tr bo ne) {k : Nat} (hk : k < 2) (hN : sN d ≤ 7) (h0 : 1 ≤ sN d) : Ct G yX5_image cX5_image 2 (some .int) 2 0 0 z σ [.ref 0, .int (nI k)] (some (.int (nI 1))) z (twS σ (158 + 5 * k) d) := by
  refine Ct.ofJ RX5 rfl [some (.ref 0), some (.int (nI k))] rfl (by decide) Nat.le.refl ?_
  refine j_iload_n dX5_image_0 rfl rfl ?_
  refine j_if_lt 9 dX5_image_1 (by decide) (fun b1 => by exact absurd b1 (nI_pos (by omega))) (fun b1 => ?_)
  refine j_iload_n dX5_image_4 rfl rfl ?_
  refine j_iconst (nI 2) dX5_image_5 rfl ?_
  refine j_icmp_ltN 12 dX5_image_6 (by decide) (by omega) (by omega) (fun b6 => ?_) (fun b6 => by exfalso; omega)
  refine j_aload_n dX5_image_12 rfl rfl ?_
  refine j_callV (c_isNoTown X) dX5_image_13 rfl mv_X5_170 (by first | exact X.1 | exact X.2.1 | exact X.2.2.2.1 | exact X.2.2.2.2.1 | exact X.2.2.2.2.2.2.1.o | exact X.2.2.2.2.2.2.1.c | exact X.2.2.2.2.2.2.1.i | exact X.2.2.2.2.2.2.1.p | exact X.2.2.2.2.2.2.1.d | exact X.2.2.2.2.2.2.2.1.o | exact X.2.2.2.2.2.2.2.2.1 | exact X.2.2.2.2.2.2.2.2.2.1 | exact X.2.2.2.2.2.2.2.2.2.2.2.1 | exact X.2.2.2.2.2.2.2.2.2.2.2.2.2.1 | exact X.2.2.2.2.2.2.2.2.2.2.2.2.2.2.1 | exact X.2.2.2.2.2.2.2.2.2.2.2.2.2.2.2) rfl ⟨(Nat.le_of_ble_eq_true rfl), (Nat.le_of_ble_eq_true rfl)⟩ ⟨(Nat.le_of_ble_eq_true rfl), (Nat.le_of_ble_eq_true rfl)⟩ (Nat.le_of_ble_eq_true rfl) ?_
  refine j_top (nI 0) (ntI_k h0 hN) ?_
  refine j_if_eq 22 dX5_image_16 (by decide) (fun _ => ?_) (fun h => absurd rfl h)
  refine j_aload_n dX5_image_22 rfl rfl ?_
  refine j_getf dX5_image_23 5 7 rfl (Nat.le_of_ble_eq_true rfl) fl_X5_40 in_5 (by first | exact X.1 | exact X.2.1 | exact X.2.2.2.1 | exact X.2.2.2.2.1 | exact X.2.2.2.2.2.2.1.o | exact X.2.2.2.2.2.2.1.c | exact X.2.2.2.2.2.2.1.i | exact X.2.2.2.2.2.2.1.p | exact X.2.2.2.2.2.2.1.d | exact X.2.2.2.2.2.2.2.1.o | exact X.2.2.2.2.2.2.2.2.1 | exact X.2.2.2.2.2.2.2.2.2.1 | exact X.2.2.2.2.2.2.2.2.2.2.2.1 | exact X.2.2.2.2.2.2.2.2.2.2.2.2.2.1 | exact X.2.2.2.2.2.2.2.2.2.2.2.2.2.2.1 | exact X.2.2.2.2.2.2.2.2.2.2.2.2.2.2.2) rfl ?_
  refine j_iload_n dX5_image_26 rfl rfl ?_
  refine j_aaldL 4 2 158 5 dX5_image_27 (by first | exact X.1 | exact X.2.1 | exact X.2.2.2.1 | exact X.2.2.2.2.1 | exact X.2.2.2.2.2.2.1.o | exact X.2.2.2.2.2.2.1.c | exact X.2.2.2.2.2.2.1.i | exact X.2.2.2.2.2.2.1.p | exact X.2.2.2.2.2.2.1.d | exact X.2.2.2.2.2.2.2.1.o | exact X.2.2.2.2.2.2.2.2.1 | exact X.2.2.2.2.2.2.2.2.2.1 | exact X.2.2.2.2.2.2.2.2.2.2.2.1 | exact X.2.2.2.2.2.2.2.2.2.2.2.2.2.1 | exact X.2.2.2.2.2.2.2.2.2.2.2.2.2.2.1 | exact X.2.2.2.2.2.2.2.2.2.2.2.2.2.2.2) (by decide) rfl hk (by decide) ?_
  refine j_aload_n dX5_image_28 rfl rfl ?_
  refine j_getf dX5_image_29 5 4 rfl (Nat.le_of_ble_eq_true rfl) fl_X5_26 in_5 (by first | exact X.1 | exact X.2.1 | exact X.2.2.2.1 | exact X.2.2.2.2.1 | exact X.2.2.2.2.2.2.1.o | exact X.2.2.2.2.2.2.1.c | exact X.2.2.2.2.2.2.1.i | exact X.2.2.2.2.2.2.1.p | exact X.2.2.2.2.2.2.1.d | exact X.2.2.2.2.2.2.2.1.o | exact X.2.2.2.2.2.2.2.2.1 | exact X.2.2.2.2.2.2.2.2.2.1 | exact X.2.2.2.2.2.2.2.2.2.2.2.1 | exact X.2.2.2.2.2.2.2.2.2.2.2.2.2.1 | exact X.2.2.2.2.2.2.2.2.2.2.2.2.2.2.1 | exact X.2.2.2.2.2.2.2.2.2.2.2.2.2.2.2) rfl ?_
  refine j_callV (c_becomesS (X.2.2.2.2.2.2.2.2.2.2.2.2.1 k hk) X.2.2.2.2.2.2.1 (Or.inl (by omega))) dX5_image_32 rfl mv_X5_124 (X.2.2.2.2.2.2.2.2.2.2.2.2.1 k hk).o rfl ⟨(Nat.le_of_ble_eq_true rfl), (Nat.le_of_ble_eq_true rfl)⟩ ⟨(Nat.le_of_ble_eq_true rfl), (Nat.le_of_ble_eq_true rfl)⟩ (Nat.le_of_ble_eq_true rfl) ?_
  refine j_iconst (nI 1) dX5_image_35 rfl ?_
  exact j_iret rfl dX5_image_36 rfl rfl (Nat.le_of_ble_eq_true rfl) (Nat.le_of_ble_eq_true rfl)
theorem x_restore_bad (X : XR σ lf fd rl rn ri tp rd dd d df nx kp da di tr bo ne) (k : Int32) (h : k < 0 ∨ ¬ k < nI 2) : Ct G yX5_restore cX5_restore 2 (some .int) 2 0 0 z σ [.ref 0, .int k] (some (.int (-1000001))) z σ := by
  refine Ct.ofJ RX5 rfl [some (.ref 0), some (.int k)] rfl (by decide) Nat.le.refl ?_
  refine j_iload_n dX5_restore_0 rfl rfl ?_
  refine j_if_lt 9 dX5_restore_1 (by decide) (fun b1 => ?_) (fun b1 => ?_)
  · refine j_ldc (-1000001) dX5_restore_9 kc_X5_59 ?_
    exact j_iret rfl dX5_restore_11 rfl rfl (Nat.le_of_ble_eq_true rfl) (Nat.le_of_ble_eq_true rfl)
  · refine j_iload_n dX5_restore_4 rfl rfl ?_
    refine j_iconst (nI 2) dX5_restore_5 rfl ?_
    refine j_icmp_lt 12 dX5_restore_6 (by decide) (fun b6 => ?_) (fun b6 => ?_)
    · exact absurd h (fun q => q.elim b1 (fun w => w b6))
    · refine j_ldc (-1000001) dX5_restore_9 kc_X5_59 ?_
      exact j_iret rfl dX5_restore_11 rfl rfl (Nat.le_of_ble_eq_true rfl) (Nat.le_of_ble_eq_true rfl)
theorem x_restore_state (X : XR σ lf fd rl rn ri tp rd dd d df nx kp da di tr bo ne) {k : Nat} (hk : k < 2) (h : sN (di k) = 0) : Ct G yX5_restore cX5_restore 2 (some .int) 2 0 0 z σ [.ref 0, .int (nI k)] (some (.int (-1000002))) z σ := by
  refine Ct.ofJ RX5 rfl [some (.ref 0), some (.int (nI k))] rfl (by decide) Nat.le.refl ?_
  refine j_iload_n dX5_restore_0 rfl rfl ?_
  refine j_if_lt 9 dX5_restore_1 (by decide) (fun b1 => by exact absurd b1 (nI_pos (by omega))) (fun b1 => ?_)
  refine j_iload_n dX5_restore_4 rfl rfl ?_
  refine j_iconst (nI 2) dX5_restore_5 rfl ?_
  refine j_icmp_ltN 12 dX5_restore_6 (by decide) (by omega) (by omega) (fun b6 => ?_) (fun b6 => by exfalso; omega)
  refine j_aload_n dX5_restore_12 rfl rfl ?_
  refine j_getf dX5_restore_13 5 7 rfl (Nat.le_of_ble_eq_true rfl) fl_X5_40 in_5 (by first | exact X.1 | exact X.2.1 | exact X.2.2.2.1 | exact X.2.2.2.2.1 | exact X.2.2.2.2.2.2.1.o | exact X.2.2.2.2.2.2.1.c | exact X.2.2.2.2.2.2.1.i | exact X.2.2.2.2.2.2.1.p | exact X.2.2.2.2.2.2.1.d | exact X.2.2.2.2.2.2.2.1.o | exact X.2.2.2.2.2.2.2.2.1 | exact X.2.2.2.2.2.2.2.2.2.1 | exact X.2.2.2.2.2.2.2.2.2.2.2.1 | exact X.2.2.2.2.2.2.2.2.2.2.2.2.2.1 | exact X.2.2.2.2.2.2.2.2.2.2.2.2.2.2.1 | exact X.2.2.2.2.2.2.2.2.2.2.2.2.2.2.2) rfl ?_
  refine j_iload_n dX5_restore_16 rfl rfl ?_
  refine j_aaldL 4 2 158 5 dX5_restore_17 (by first | exact X.1 | exact X.2.1 | exact X.2.2.2.1 | exact X.2.2.2.2.1 | exact X.2.2.2.2.2.2.1.o | exact X.2.2.2.2.2.2.1.c | exact X.2.2.2.2.2.2.1.i | exact X.2.2.2.2.2.2.1.p | exact X.2.2.2.2.2.2.1.d | exact X.2.2.2.2.2.2.2.1.o | exact X.2.2.2.2.2.2.2.2.1 | exact X.2.2.2.2.2.2.2.2.2.1 | exact X.2.2.2.2.2.2.2.2.2.2.2.1 | exact X.2.2.2.2.2.2.2.2.2.2.2.2.2.1 | exact X.2.2.2.2.2.2.2.2.2.2.2.2.2.2.1 | exact X.2.2.2.2.2.2.2.2.2.2.2.2.2.2.2) (by decide) rfl hk (by decide) ?_
  refine j_getf dX5_restore_18 4 4 rfl (Nat.le_of_ble_eq_true rfl) fl_X5_131 in_4 (X.2.2.2.2.2.2.2.2.2.2.2.2.1 k hk).o rfl ?_
  refine j_top (nI 0) (by rw [h]) ?_
  refine j_if_ne 27 dX5_restore_21 (by decide) (fun h => absurd rfl h) (fun _ => ?_)
  refine j_ldc (-1000002) dX5_restore_24 kc_X5_140 ?_
  exact j_iret rfl dX5_restore_26 rfl rfl (Nat.le_of_ble_eq_true rfl) (Nat.le_of_ble_eq_true rfl)
theorem x_restore_ok (X : XR σ lf fd rl rn ri tp rd dd d df nx kp da di tr bo ne) {k : Nat} (hk : k < 2) (hN : sN (di k) ≤ 7) (h0 : 1 ≤ sN (di k)) : Ct G yX5_restore cX5_restore 2 (some .int) 2 0 0 z σ [.ref 0, .int (nI k)] (some (.int (nI 1))) z (ups (twS σ 25 (di k)) 35 (xA 0 0)) := by
  refine Ct.ofJ RX5 rfl [some (.ref 0), some (.int (nI k))] rfl (by decide) Nat.le.refl ?_
  refine j_iload_n dX5_restore_0 rfl rfl ?_
  refine j_if_lt 9 dX5_restore_1 (by decide) (fun b1 => by exact absurd b1 (nI_pos (by omega))) (fun b1 => ?_)
  refine j_iload_n dX5_restore_4 rfl rfl ?_
  refine j_iconst (nI 2) dX5_restore_5 rfl ?_
  refine j_icmp_ltN 12 dX5_restore_6 (by decide) (by omega) (by omega) (fun b6 => ?_) (fun b6 => by exfalso; omega)
  refine j_aload_n dX5_restore_12 rfl rfl ?_
  refine j_getf dX5_restore_13 5 7 rfl (Nat.le_of_ble_eq_true rfl) fl_X5_40 in_5 (by first | exact X.1 | exact X.2.1 | exact X.2.2.2.1 | exact X.2.2.2.2.1 | exact X.2.2.2.2.2.2.1.o | exact X.2.2.2.2.2.2.1.c | exact X.2.2.2.2.2.2.1.i | exact X.2.2.2.2.2.2.1.p | exact X.2.2.2.2.2.2.1.d | exact X.2.2.2.2.2.2.2.1.o | exact X.2.2.2.2.2.2.2.2.1 | exact X.2.2.2.2.2.2.2.2.2.1 | exact X.2.2.2.2.2.2.2.2.2.2.2.1 | exact X.2.2.2.2.2.2.2.2.2.2.2.2.2.1 | exact X.2.2.2.2.2.2.2.2.2.2.2.2.2.2.1 | exact X.2.2.2.2.2.2.2.2.2.2.2.2.2.2.2) rfl ?_
  refine j_iload_n dX5_restore_16 rfl rfl ?_
  refine j_aaldL 4 2 158 5 dX5_restore_17 (by first | exact X.1 | exact X.2.1 | exact X.2.2.2.1 | exact X.2.2.2.2.1 | exact X.2.2.2.2.2.2.1.o | exact X.2.2.2.2.2.2.1.c | exact X.2.2.2.2.2.2.1.i | exact X.2.2.2.2.2.2.1.p | exact X.2.2.2.2.2.2.1.d | exact X.2.2.2.2.2.2.2.1.o | exact X.2.2.2.2.2.2.2.2.1 | exact X.2.2.2.2.2.2.2.2.2.1 | exact X.2.2.2.2.2.2.2.2.2.2.2.1 | exact X.2.2.2.2.2.2.2.2.2.2.2.2.2.1 | exact X.2.2.2.2.2.2.2.2.2.2.2.2.2.2.1 | exact X.2.2.2.2.2.2.2.2.2.2.2.2.2.2.2) (by decide) rfl hk (by decide) ?_
  refine j_getf dX5_restore_18 4 4 rfl (Nat.le_of_ble_eq_true rfl) fl_X5_131 in_4 (X.2.2.2.2.2.2.2.2.2.2.2.2.1 k hk).o rfl ?_
  refine j_if_ne 27 dX5_restore_21 (by decide) (fun b21 => ?_) (fun b21 => by exact absurd b21 (nI_ne0 h0 (by omega)))
  refine j_aload_n dX5_restore_27 rfl rfl ?_
  refine j_getf dX5_restore_28 5 4 rfl (Nat.le_of_ble_eq_true rfl) fl_X5_26 in_5 (by first | exact X.1 | exact X.2.1 | exact X.2.2.2.1 | exact X.2.2.2.2.1 | exact X.2.2.2.2.2.2.1.o | exact X.2.2.2.2.2.2.1.c | exact X.2.2.2.2.2.2.1.i | exact X.2.2.2.2.2.2.1.p | exact X.2.2.2.2.2.2.1.d | exact X.2.2.2.2.2.2.2.1.o | exact X.2.2.2.2.2.2.2.2.1 | exact X.2.2.2.2.2.2.2.2.2.1 | exact X.2.2.2.2.2.2.2.2.2.2.2.1 | exact X.2.2.2.2.2.2.2.2.2.2.2.2.2.1 | exact X.2.2.2.2.2.2.2.2.2.2.2.2.2.2.1 | exact X.2.2.2.2.2.2.2.2.2.2.2.2.2.2.2) rfl ?_
  refine j_aload_n dX5_restore_31 rfl rfl ?_
  refine j_getf dX5_restore_32 5 7 rfl (Nat.le_of_ble_eq_true rfl) fl_X5_40 in_5 (by first | exact X.1 | exact X.2.1 | exact X.2.2.2.1 | exact X.2.2.2.2.1 | exact X.2.2.2.2.2.2.1.o | exact X.2.2.2.2.2.2.1.c | exact X.2.2.2.2.2.2.1.i | exact X.2.2.2.2.2.2.1.p | exact X.2.2.2.2.2.2.1.d | exact X.2.2.2.2.2.2.2.1.o | exact X.2.2.2.2.2.2.2.2.1 | exact X.2.2.2.2.2.2.2.2.2.1 | exact X.2.2.2.2.2.2.2.2.2.2.2.1 | exact X.2.2.2.2.2.2.2.2.2.2.2.2.2.1 | exact X.2.2.2.2.2.2.2.2.2.2.2.2.2.2.1 | exact X.2.2.2.2.2.2.2.2.2.2.2.2.2.2.2) rfl ?_
  refine j_iload_n dX5_restore_35 rfl rfl ?_
  refine j_aaldL 4 2 158 5 dX5_restore_36 (by first | exact X.1 | exact X.2.1 | exact X.2.2.2.1 | exact X.2.2.2.2.1 | exact X.2.2.2.2.2.2.1.o | exact X.2.2.2.2.2.2.1.c | exact X.2.2.2.2.2.2.1.i | exact X.2.2.2.2.2.2.1.p | exact X.2.2.2.2.2.2.1.d | exact X.2.2.2.2.2.2.2.1.o | exact X.2.2.2.2.2.2.2.2.1 | exact X.2.2.2.2.2.2.2.2.2.1 | exact X.2.2.2.2.2.2.2.2.2.2.2.1 | exact X.2.2.2.2.2.2.2.2.2.2.2.2.2.1 | exact X.2.2.2.2.2.2.2.2.2.2.2.2.2.2.1 | exact X.2.2.2.2.2.2.2.2.2.2.2.2.2.2.2) (by decide) rfl hk (by decide) ?_
  refine j_callV (c_becomesS X.2.2.2.2.2.2.1 (X.2.2.2.2.2.2.2.2.2.2.2.2.1 k hk) (Or.inr (by omega))) dX5_restore_37 rfl mv_X5_124 (by first | exact X.1 | exact X.2.1 | exact X.2.2.2.1 | exact X.2.2.2.2.1 | exact X.2.2.2.2.2.2.1.o | exact X.2.2.2.2.2.2.1.c | exact X.2.2.2.2.2.2.1.i | exact X.2.2.2.2.2.2.1.p | exact X.2.2.2.2.2.2.1.d | exact X.2.2.2.2.2.2.2.1.o | exact X.2.2.2.2.2.2.2.2.1 | exact X.2.2.2.2.2.2.2.2.2.1 | exact X.2.2.2.2.2.2.2.2.2.2.2.1 | exact X.2.2.2.2.2.2.2.2.2.2.2.2.2.1 | exact X.2.2.2.2.2.2.2.2.2.2.2.2.2.2.1 | exact X.2.2.2.2.2.2.2.2.2.2.2.2.2.2.2) rfl ⟨(Nat.le_of_ble_eq_true rfl), (Nat.le_of_ble_eq_true rfl)⟩ ⟨(Nat.le_of_ble_eq_true rfl), (Nat.le_of_ble_eq_true rfl)⟩ (Nat.le_of_ble_eq_true rfl) ?_
  have X := X.town (di k)
  refine j_aload_n dX5_restore_40 rfl rfl ?_
  refine j_getf dX5_restore_41 5 6 rfl (Nat.le_of_ble_eq_true rfl) fl_X5_36 in_5 (by first | exact X.1 | exact X.2.1 | exact X.2.2.2.1 | exact X.2.2.2.2.1 | exact X.2.2.2.2.2.2.1.o | exact X.2.2.2.2.2.2.1.c | exact X.2.2.2.2.2.2.1.i | exact X.2.2.2.2.2.2.1.p | exact X.2.2.2.2.2.2.1.d | exact X.2.2.2.2.2.2.2.1.o | exact X.2.2.2.2.2.2.2.2.1 | exact X.2.2.2.2.2.2.2.2.2.1 | exact X.2.2.2.2.2.2.2.2.2.2.2.1 | exact X.2.2.2.2.2.2.2.2.2.2.2.2.2.1 | exact X.2.2.2.2.2.2.2.2.2.2.2.2.2.2.1 | exact X.2.2.2.2.2.2.2.2.2.2.2.2.2.2.2) rfl ?_
  refine j_callV (c_forgetAll G z _ X.2.2.2.2.2.2.2.2.1) dX5_restore_44 rfl mv_X5_128 (by first | exact X.1 | exact X.2.1 | exact X.2.2.2.1 | exact X.2.2.2.2.1 | exact X.2.2.2.2.2.2.1.o | exact X.2.2.2.2.2.2.1.c | exact X.2.2.2.2.2.2.1.i | exact X.2.2.2.2.2.2.1.p | exact X.2.2.2.2.2.2.1.d | exact X.2.2.2.2.2.2.2.1.o | exact X.2.2.2.2.2.2.2.2.1 | exact X.2.2.2.2.2.2.2.2.2.1 | exact X.2.2.2.2.2.2.2.2.2.2.2.1 | exact X.2.2.2.2.2.2.2.2.2.2.2.2.2.1 | exact X.2.2.2.2.2.2.2.2.2.2.2.2.2.2.1 | exact X.2.2.2.2.2.2.2.2.2.2.2.2.2.2.2) rfl ⟨(Nat.le_of_ble_eq_true rfl), (Nat.le_of_ble_eq_true rfl)⟩ ⟨(Nat.le_of_ble_eq_true rfl), (Nat.le_of_ble_eq_true rfl)⟩ (Nat.le_of_ble_eq_true rfl) ?_
  refine j_iconst (nI 1) dX5_restore_47 rfl ?_
  exact j_iret rfl dX5_restore_48 rfl rfl (Nat.le_of_ble_eq_true rfl) (Nat.le_of_ble_eq_true rfl)
theorem x_kind_bad (X : XR σ lf fd rl rn ri tp rd dd d df nx kp da di tr bo ne) (p : Int32) (h : ¬ npI p (sN d) = 0) : Ct G yX5_kind cX5_kind 2 (some .int) 5 0 0 z σ [.ref 0, .int p] (some (.int (-1000001))) z σ := by
  refine Ct.ofJ RX5 rfl [some (.ref 0), some (.int p)] rfl (by decide) Nat.le.refl ?_
  refine j_aload_n dX5_kind_0 rfl rfl ?_
  refine j_iload_n dX5_kind_1 rfl rfl ?_
  refine j_callV (c_isNoPerson X p) dX5_kind_2 rfl mv_X5_155 (by first | exact X.1 | exact X.2.1 | exact X.2.2.2.1 | exact X.2.2.2.2.1 | exact X.2.2.2.2.2.2.1.o | exact X.2.2.2.2.2.2.1.c | exact X.2.2.2.2.2.2.1.i | exact X.2.2.2.2.2.2.1.p | exact X.2.2.2.2.2.2.1.d | exact X.2.2.2.2.2.2.2.1.o | exact X.2.2.2.2.2.2.2.2.1 | exact X.2.2.2.2.2.2.2.2.2.1 | exact X.2.2.2.2.2.2.2.2.2.2.2.1 | exact X.2.2.2.2.2.2.2.2.2.2.2.2.2.1 | exact X.2.2.2.2.2.2.2.2.2.2.2.2.2.2.1 | exact X.2.2.2.2.2.2.2.2.2.2.2.2.2.2.2) rfl ⟨(Nat.le_of_ble_eq_true rfl), (Nat.le_of_ble_eq_true rfl)⟩ ⟨(Nat.le_of_ble_eq_true rfl), (Nat.le_of_ble_eq_true rfl)⟩ (Nat.le_of_ble_eq_true rfl) ?_
  refine j_if_eq 11 dX5_kind_5 (by decide) (fun b5 => by exact absurd b5 h) (fun b5 => ?_)
  refine j_ldc (-1000001) dX5_kind_8 kc_X5_59 ?_
  exact j_iret rfl dX5_kind_10 rfl rfl (Nat.le_of_ble_eq_true rfl) (Nat.le_of_ble_eq_true rfl)
theorem x_kind_ok (X : XR σ lf fd rl rn ri tp rd dd d df nx kp da di tr bo ne) {p : Nat} (hN : sN d ≤ 7) (hp : p < sN d) (hu : 1 ≤ sU d) (hu2 : sU d ≤ 20) : Ct G yX5_kind cX5_kind 2 (some .int) 5 0 0 z σ [.ref 0, .int (nI p)] (some (.int (kindI (sD d) (sF d) (sN d) (sU d) p))) z σ := by
  refine Ct.ofJ RX5 rfl [some (.ref 0), some (.int (nI p))] rfl (by decide) Nat.le.refl ?_
  refine j_aload_n dX5_kind_0 rfl rfl ?_
  refine j_iload_n dX5_kind_1 rfl rfl ?_
  refine j_callV (c_isNoPerson X (nI p)) dX5_kind_2 rfl mv_X5_155 (by first | exact X.1 | exact X.2.1 | exact X.2.2.2.1 | exact X.2.2.2.2.1 | exact X.2.2.2.2.2.2.1.o | exact X.2.2.2.2.2.2.1.c | exact X.2.2.2.2.2.2.1.i | exact X.2.2.2.2.2.2.1.p | exact X.2.2.2.2.2.2.1.d | exact X.2.2.2.2.2.2.2.1.o | exact X.2.2.2.2.2.2.2.2.1 | exact X.2.2.2.2.2.2.2.2.2.1 | exact X.2.2.2.2.2.2.2.2.2.2.2.1 | exact X.2.2.2.2.2.2.2.2.2.2.2.2.2.1 | exact X.2.2.2.2.2.2.2.2.2.2.2.2.2.2.1 | exact X.2.2.2.2.2.2.2.2.2.2.2.2.2.2.2) rfl ⟨(Nat.le_of_ble_eq_true rfl), (Nat.le_of_ble_eq_true rfl)⟩ ⟨(Nat.le_of_ble_eq_true rfl), (Nat.le_of_ble_eq_true rfl)⟩ (Nat.le_of_ble_eq_true rfl) ?_
  refine j_top (nI 0) (npI_k hp hN) ?_
  refine j_if_eq 11 dX5_kind_5 (by decide) (fun _ => ?_) (fun h => absurd rfl h)
  refine j_aload_n dX5_kind_11 rfl rfl ?_
  refine j_getf dX5_kind_12 5 4 rfl (Nat.le_of_ble_eq_true rfl) fl_X5_26 in_5 (by first | exact X.1 | exact X.2.1 | exact X.2.2.2.1 | exact X.2.2.2.2.1 | exact X.2.2.2.2.2.2.1.o | exact X.2.2.2.2.2.2.1.c | exact X.2.2.2.2.2.2.1.i | exact X.2.2.2.2.2.2.1.p | exact X.2.2.2.2.2.2.1.d | exact X.2.2.2.2.2.2.2.1.o | exact X.2.2.2.2.2.2.2.2.1 | exact X.2.2.2.2.2.2.2.2.2.1 | exact X.2.2.2.2.2.2.2.2.2.2.2.1 | exact X.2.2.2.2.2.2.2.2.2.2.2.2.2.1 | exact X.2.2.2.2.2.2.2.2.2.2.2.2.2.2.1 | exact X.2.2.2.2.2.2.2.2.2.2.2.2.2.2.2) rfl ?_
  refine j_iload_n dX5_kind_15 rfl rfl ?_
  refine j_callV (c_kindOfS X.2.2.2.2.2.2.1 hN (by omega) hu hu2) dX5_kind_16 rfl mv_X5_230 (by first | exact X.1 | exact X.2.1 | exact X.2.2.2.1 | exact X.2.2.2.2.1 | exact X.2.2.2.2.2.2.1.o | exact X.2.2.2.2.2.2.1.c | exact X.2.2.2.2.2.2.1.i | exact X.2.2.2.2.2.2.1.p | exact X.2.2.2.2.2.2.1.d | exact X.2.2.2.2.2.2.2.1.o | exact X.2.2.2.2.2.2.2.2.1 | exact X.2.2.2.2.2.2.2.2.2.1 | exact X.2.2.2.2.2.2.2.2.2.2.2.1 | exact X.2.2.2.2.2.2.2.2.2.2.2.2.2.1 | exact X.2.2.2.2.2.2.2.2.2.2.2.2.2.2.1 | exact X.2.2.2.2.2.2.2.2.2.2.2.2.2.2.2) rfl ⟨(Nat.le_of_ble_eq_true rfl), (Nat.le_of_ble_eq_true rfl)⟩ ⟨(Nat.le_of_ble_eq_true rfl), (Nat.le_of_ble_eq_true rfl)⟩ (Nat.le_of_ble_eq_true rfl) ?_
  exact j_iret rfl dX5_kind_19 rfl rfl (Nat.le_of_ble_eq_true rfl) (Nat.le_of_ble_eq_true rfl)
theorem x_as_bad (X : XR σ lf fd rl rn ri tp rd dd d df nx kp da di tr bo ne) (p k : Int32) (h : ¬ npI p (sN d) = 0 ∨ k < 0 ∨ ¬ k < nI 6) : Ct G yX5_as cX5_as 3 (some .int) 5 0 0 z σ [.ref 0, .int p, .int k] (some (.int (-1000001))) z σ := by
  refine Ct.ofJ RX5 rfl [some (.ref 0), some (.int p), some (.int k)] rfl (by decide) Nat.le.refl ?_
  refine j_aload_n dX5_as_0 rfl rfl ?_
  refine j_iload_n dX5_as_1 rfl rfl ?_
  refine j_callV (c_isNoPerson X p) dX5_as_2 rfl mv_X5_155 (by first | exact X.1 | exact X.2.1 | exact X.2.2.2.1 | exact X.2.2.2.2.1 | exact X.2.2.2.2.2.2.1.o | exact X.2.2.2.2.2.2.1.c | exact X.2.2.2.2.2.2.1.i | exact X.2.2.2.2.2.2.1.p | exact X.2.2.2.2.2.2.1.d | exact X.2.2.2.2.2.2.2.1.o | exact X.2.2.2.2.2.2.2.2.1 | exact X.2.2.2.2.2.2.2.2.2.1 | exact X.2.2.2.2.2.2.2.2.2.2.2.1 | exact X.2.2.2.2.2.2.2.2.2.2.2.2.2.1 | exact X.2.2.2.2.2.2.2.2.2.2.2.2.2.2.1 | exact X.2.2.2.2.2.2.2.2.2.2.2.2.2.2.2) rfl ⟨(Nat.le_of_ble_eq_true rfl), (Nat.le_of_ble_eq_true rfl)⟩ ⟨(Nat.le_of_ble_eq_true rfl), (Nat.le_of_ble_eq_true rfl)⟩ (Nat.le_of_ble_eq_true rfl) ?_
  refine j_if_ne 18 dX5_as_5 (by decide) (fun b5 => ?_) (fun b5 => ?_)
  · refine j_ldc (-1000001) dX5_as_18 kc_X5_59 ?_
    exact j_iret rfl dX5_as_20 rfl rfl (Nat.le_of_ble_eq_true rfl) (Nat.le_of_ble_eq_true rfl)
  · refine j_iload_n dX5_as_8 rfl rfl ?_
    refine j_if_lt 18 dX5_as_9 (by decide) (fun b9 => ?_) (fun b9 => ?_)
    · refine j_ldc (-1000001) dX5_as_18 kc_X5_59 ?_
      exact j_iret rfl dX5_as_20 rfl rfl (Nat.le_of_ble_eq_true rfl) (Nat.le_of_ble_eq_true rfl)
    · refine j_iload_n dX5_as_12 rfl rfl ?_
      refine j_bipush (nI 6) dX5_as_13 rfl ?_
      refine j_icmp_lt 21 dX5_as_15 (by decide) (fun b15 => ?_) (fun b15 => ?_)
      · exfalso
        rcases h with h | h | h
        · exact h b5
        · exact b9 h
        · exact h b15
      · refine j_ldc (-1000001) dX5_as_18 kc_X5_59 ?_
        exact j_iret rfl dX5_as_20 rfl rfl (Nat.le_of_ble_eq_true rfl) (Nat.le_of_ble_eq_true rfl)
theorem x_as_kind (X : XR σ lf fd rl rn ri tp rd dd d df nx kp da di tr bo ne) {p : Nat} (hN : sN d ≤ 7) (hp : p < sN d) (hu : 1 ≤ sU d) (hu2 : sU d ≤ 20) {k kd : Nat} (hk : k < 6) (hkd : kindI (sD d) (sF d) (sN d) (sU d) p = nI kd) (hk6 : kd < 6) (h : bitI (tb0.getD kd 0) (nI k) = 0) : Ct G yX5_as cX5_as 3 (some .int) 5 0 0 z σ [.ref 0, .int (nI p), .int (nI k)] (some (.int (-1000010 - nI 3))) z (ups σ 0 (xO lf (nI 3))) := by
  refine Ct.ofJ RX5 rfl [some (.ref 0), some (.int (nI p)), some (.int (nI k))] rfl (by decide) Nat.le.refl ?_
  refine j_aload_n dX5_as_0 rfl rfl ?_
  refine j_iload_n dX5_as_1 rfl rfl ?_
  refine j_callV (c_isNoPerson X (nI p)) dX5_as_2 rfl mv_X5_155 (by first | exact X.1 | exact X.2.1 | exact X.2.2.2.1 | exact X.2.2.2.2.1 | exact X.2.2.2.2.2.2.1.o | exact X.2.2.2.2.2.2.1.c | exact X.2.2.2.2.2.2.1.i | exact X.2.2.2.2.2.2.1.p | exact X.2.2.2.2.2.2.1.d | exact X.2.2.2.2.2.2.2.1.o | exact X.2.2.2.2.2.2.2.2.1 | exact X.2.2.2.2.2.2.2.2.2.1 | exact X.2.2.2.2.2.2.2.2.2.2.2.1 | exact X.2.2.2.2.2.2.2.2.2.2.2.2.2.1 | exact X.2.2.2.2.2.2.2.2.2.2.2.2.2.2.1 | exact X.2.2.2.2.2.2.2.2.2.2.2.2.2.2.2) rfl ⟨(Nat.le_of_ble_eq_true rfl), (Nat.le_of_ble_eq_true rfl)⟩ ⟨(Nat.le_of_ble_eq_true rfl), (Nat.le_of_ble_eq_true rfl)⟩ (Nat.le_of_ble_eq_true rfl) ?_
  refine j_top (nI 0) (npI_k hp hN) ?_
  refine j_if_ne 18 dX5_as_5 (by decide) (fun h => absurd rfl h) (fun _ => ?_)
  refine j_iload_n dX5_as_8 rfl rfl ?_
  refine j_if_lt 18 dX5_as_9 (by decide) (fun b9 => by exact absurd b9 (nI_pos (by omega))) (fun b9 => ?_)
  refine j_iload_n dX5_as_12 rfl rfl ?_
  refine j_bipush (nI 6) dX5_as_13 rfl ?_
  refine j_icmp_ltN 21 dX5_as_15 (by decide) (by omega) (by omega) (fun b15 => ?_) (fun b15 => by exfalso; omega)
  refine j_gets RX5 "KINDS_THAT_ONE_IS" 200 dX5_as_21 fl_X5_233 (fun _ _ h => h.1.1) ?_
  refine j_aload_n dX5_as_24 rfl rfl ?_
  refine j_getf dX5_as_25 5 4 rfl (Nat.le_of_ble_eq_true rfl) fl_X5_26 in_5 (by first | exact X.1 | exact X.2.1 | exact X.2.2.2.1 | exact X.2.2.2.2.1 | exact X.2.2.2.2.2.2.1.o | exact X.2.2.2.2.2.2.1.c | exact X.2.2.2.2.2.2.1.i | exact X.2.2.2.2.2.2.1.p | exact X.2.2.2.2.2.2.1.d | exact X.2.2.2.2.2.2.2.1.o | exact X.2.2.2.2.2.2.2.2.1 | exact X.2.2.2.2.2.2.2.2.2.1 | exact X.2.2.2.2.2.2.2.2.2.2.2.1 | exact X.2.2.2.2.2.2.2.2.2.2.2.2.2.1 | exact X.2.2.2.2.2.2.2.2.2.2.2.2.2.2.1 | exact X.2.2.2.2.2.2.2.2.2.2.2.2.2.2.2) rfl ?_
  refine j_iload_n dX5_as_28 rfl rfl ?_
  refine j_callV (c_kindOfS X.2.2.2.2.2.2.1 hN (by omega) hu hu2) dX5_as_29 rfl mv_X5_230 (by first | exact X.1 | exact X.2.1 | exact X.2.2.2.1 | exact X.2.2.2.2.1 | exact X.2.2.2.2.2.2.1.o | exact X.2.2.2.2.2.2.1.c | exact X.2.2.2.2.2.2.1.i | exact X.2.2.2.2.2.2.1.p | exact X.2.2.2.2.2.2.1.d | exact X.2.2.2.2.2.2.2.1.o | exact X.2.2.2.2.2.2.2.2.1 | exact X.2.2.2.2.2.2.2.2.2.1 | exact X.2.2.2.2.2.2.2.2.2.2.2.1 | exact X.2.2.2.2.2.2.2.2.2.2.2.2.2.1 | exact X.2.2.2.2.2.2.2.2.2.2.2.2.2.2.1 | exact X.2.2.2.2.2.2.2.2.2.2.2.2.2.2.2) rfl ⟨(Nat.le_of_ble_eq_true rfl), (Nat.le_of_ble_eq_true rfl)⟩ ⟨(Nat.le_of_ble_eq_true rfl), (Nat.le_of_ble_eq_true rfl)⟩ (Nat.le_of_ble_eq_true rfl) ?_
  refine j_tld 200 tb0 dX5_as_32 (fun _ _ h => h.1.2) hkd hk6 _ rfl ?_
  refine j_iload_n dX5_as_33 rfl rfl ?_
  refine j_callS (c_bitOf G z _ _ (nI k)) dX5_as_34 rfl ms_X5_167 ⟨(Nat.le_of_ble_eq_true rfl), (Nat.le_of_ble_eq_true rfl)⟩ ⟨(Nat.le_of_ble_eq_true rfl), (Nat.le_of_ble_eq_true rfl)⟩ (Nat.le_of_ble_eq_true rfl) ?_
  refine j_if_ne 46 dX5_as_37 (by decide) (fun b37 => by exact absurd h b37) (fun b37 => ?_)
  refine j_aload_n dX5_as_40 rfl rfl ?_
  refine j_iconst (nI 3) dX5_as_41 rfl ?_
  refine j_callV (c_found X (nI 3)) dX5_as_42 rfl mv_X5_60 (by first | exact X.1 | exact X.2.1 | exact X.2.2.2.1 | exact X.2.2.2.2.1 | exact X.2.2.2.2.2.2.1.o | exact X.2.2.2.2.2.2.1.c | exact X.2.2.2.2.2.2.1.i | exact X.2.2.2.2.2.2.1.p | exact X.2.2.2.2.2.2.1.d | exact X.2.2.2.2.2.2.2.1.o | exact X.2.2.2.2.2.2.2.2.1 | exact X.2.2.2.2.2.2.2.2.2.1 | exact X.2.2.2.2.2.2.2.2.2.2.2.1 | exact X.2.2.2.2.2.2.2.2.2.2.2.2.2.1 | exact X.2.2.2.2.2.2.2.2.2.2.2.2.2.2.1 | exact X.2.2.2.2.2.2.2.2.2.2.2.2.2.2.2) rfl ⟨(Nat.le_of_ble_eq_true rfl), (Nat.le_of_ble_eq_true rfl)⟩ ⟨(Nat.le_of_ble_eq_true rfl), (Nat.le_of_ble_eq_true rfl)⟩ (Nat.le_of_ble_eq_true rfl) ?_
  exact j_iret rfl dX5_as_45 rfl rfl (Nat.le_of_ble_eq_true rfl) (Nat.le_of_ble_eq_true rfl)
theorem x_as_ok (X : XR σ lf fd rl rn ri tp rd dd d df nx kp da di tr bo ne) {p : Nat} (hN : sN d ≤ 7) (hp : p < sN d) (hu : 1 ≤ sU d) (hu2 : sU d ≤ 20) {k kd : Nat} (hk : k < 6) (hkd : kindI (sD d) (sF d) (sN d) (sU d) p = nI kd) (hk6 : kd < 6) (h : ¬ bitI (tb0.getD kd 0) (nI k) = 0) : Ct G yX5_as cX5_as 3 (some .int) 5 0 0 z σ [.ref 0, .int (nI p), .int (nI k)] (some (.int (nI p))) z (ups σ 0 (xO lf (nI 0))) := by
  refine Ct.ofJ RX5 rfl [some (.ref 0), some (.int (nI p)), some (.int (nI k))] rfl (by decide) Nat.le.refl ?_
  refine j_aload_n dX5_as_0 rfl rfl ?_
  refine j_iload_n dX5_as_1 rfl rfl ?_
  refine j_callV (c_isNoPerson X (nI p)) dX5_as_2 rfl mv_X5_155 (by first | exact X.1 | exact X.2.1 | exact X.2.2.2.1 | exact X.2.2.2.2.1 | exact X.2.2.2.2.2.2.1.o | exact X.2.2.2.2.2.2.1.c | exact X.2.2.2.2.2.2.1.i | exact X.2.2.2.2.2.2.1.p | exact X.2.2.2.2.2.2.1.d | exact X.2.2.2.2.2.2.2.1.o | exact X.2.2.2.2.2.2.2.2.1 | exact X.2.2.2.2.2.2.2.2.2.1 | exact X.2.2.2.2.2.2.2.2.2.2.2.1 | exact X.2.2.2.2.2.2.2.2.2.2.2.2.2.1 | exact X.2.2.2.2.2.2.2.2.2.2.2.2.2.2.1 | exact X.2.2.2.2.2.2.2.2.2.2.2.2.2.2.2) rfl ⟨(Nat.le_of_ble_eq_true rfl), (Nat.le_of_ble_eq_true rfl)⟩ ⟨(Nat.le_of_ble_eq_true rfl), (Nat.le_of_ble_eq_true rfl)⟩ (Nat.le_of_ble_eq_true rfl) ?_
  refine j_top (nI 0) (npI_k hp hN) ?_
  refine j_if_ne 18 dX5_as_5 (by decide) (fun h => absurd rfl h) (fun _ => ?_)
  refine j_iload_n dX5_as_8 rfl rfl ?_
  refine j_if_lt 18 dX5_as_9 (by decide) (fun b9 => by exact absurd b9 (nI_pos (by omega))) (fun b9 => ?_)
  refine j_iload_n dX5_as_12 rfl rfl ?_
  refine j_bipush (nI 6) dX5_as_13 rfl ?_
  refine j_icmp_ltN 21 dX5_as_15 (by decide) (by omega) (by omega) (fun b15 => ?_) (fun b15 => by exfalso; omega)
  refine j_gets RX5 "KINDS_THAT_ONE_IS" 200 dX5_as_21 fl_X5_233 (fun _ _ h => h.1.1) ?_
  refine j_aload_n dX5_as_24 rfl rfl ?_
  refine j_getf dX5_as_25 5 4 rfl (Nat.le_of_ble_eq_true rfl) fl_X5_26 in_5 (by first | exact X.1 | exact X.2.1 | exact X.2.2.2.1 | exact X.2.2.2.2.1 | exact X.2.2.2.2.2.2.1.o | exact X.2.2.2.2.2.2.1.c | exact X.2.2.2.2.2.2.1.i | exact X.2.2.2.2.2.2.1.p | exact X.2.2.2.2.2.2.1.d | exact X.2.2.2.2.2.2.2.1.o | exact X.2.2.2.2.2.2.2.2.1 | exact X.2.2.2.2.2.2.2.2.2.1 | exact X.2.2.2.2.2.2.2.2.2.2.2.1 | exact X.2.2.2.2.2.2.2.2.2.2.2.2.2.1 | exact X.2.2.2.2.2.2.2.2.2.2.2.2.2.2.1 | exact X.2.2.2.2.2.2.2.2.2.2.2.2.2.2.2) rfl ?_
  refine j_iload_n dX5_as_28 rfl rfl ?_
  refine j_callV (c_kindOfS X.2.2.2.2.2.2.1 hN (by omega) hu hu2) dX5_as_29 rfl mv_X5_230 (by first | exact X.1 | exact X.2.1 | exact X.2.2.2.1 | exact X.2.2.2.2.1 | exact X.2.2.2.2.2.2.1.o | exact X.2.2.2.2.2.2.1.c | exact X.2.2.2.2.2.2.1.i | exact X.2.2.2.2.2.2.1.p | exact X.2.2.2.2.2.2.1.d | exact X.2.2.2.2.2.2.2.1.o | exact X.2.2.2.2.2.2.2.2.1 | exact X.2.2.2.2.2.2.2.2.2.1 | exact X.2.2.2.2.2.2.2.2.2.2.2.1 | exact X.2.2.2.2.2.2.2.2.2.2.2.2.2.1 | exact X.2.2.2.2.2.2.2.2.2.2.2.2.2.2.1 | exact X.2.2.2.2.2.2.2.2.2.2.2.2.2.2.2) rfl ⟨(Nat.le_of_ble_eq_true rfl), (Nat.le_of_ble_eq_true rfl)⟩ ⟨(Nat.le_of_ble_eq_true rfl), (Nat.le_of_ble_eq_true rfl)⟩ (Nat.le_of_ble_eq_true rfl) ?_
  refine j_tld 200 tb0 dX5_as_32 (fun _ _ h => h.1.2) hkd hk6 _ rfl ?_
  refine j_iload_n dX5_as_33 rfl rfl ?_
  refine j_callS (c_bitOf G z _ _ (nI k)) dX5_as_34 rfl ms_X5_167 ⟨(Nat.le_of_ble_eq_true rfl), (Nat.le_of_ble_eq_true rfl)⟩ ⟨(Nat.le_of_ble_eq_true rfl), (Nat.le_of_ble_eq_true rfl)⟩ (Nat.le_of_ble_eq_true rfl) ?_
  refine j_if_ne 46 dX5_as_37 (by decide) (fun b37 => ?_) (fun b37 => by exact absurd b37 h)
  refine j_aload_n dX5_as_46 rfl rfl ?_
  refine j_iload_n dX5_as_47 rfl rfl ?_
  refine j_callV (c_foundNothing X (nI p)) dX5_as_48 rfl mv_X5_68 (by first | exact X.1 | exact X.2.1 | exact X.2.2.2.1 | exact X.2.2.2.2.1 | exact X.2.2.2.2.2.2.1.o | exact X.2.2.2.2.2.2.1.c | exact X.2.2.2.2.2.2.1.i | exact X.2.2.2.2.2.2.1.p | exact X.2.2.2.2.2.2.1.d | exact X.2.2.2.2.2.2.2.1.o | exact X.2.2.2.2.2.2.2.2.1 | exact X.2.2.2.2.2.2.2.2.2.1 | exact X.2.2.2.2.2.2.2.2.2.2.2.1 | exact X.2.2.2.2.2.2.2.2.2.2.2.2.2.1 | exact X.2.2.2.2.2.2.2.2.2.2.2.2.2.2.1 | exact X.2.2.2.2.2.2.2.2.2.2.2.2.2.2.2) rfl ⟨(Nat.le_of_ble_eq_true rfl), (Nat.le_of_ble_eq_true rfl)⟩ ⟨(Nat.le_of_ble_eq_true rfl), (Nat.le_of_ble_eq_true rfl)⟩ (Nat.le_of_ble_eq_true rfl) ?_
  exact j_iret rfl dX5_as_51 rfl rfl (Nat.le_of_ble_eq_true rfl) (Nat.le_of_ble_eq_true rfl)
theorem x_trace_none (X : XR σ lf fd rl rn ri tp rd dd d df nx kp da di tr bo ne) (i : Int32) (h : i < 0 ∨ ¬ i < nI tr) : Ct G yX5_trace cX5_trace 2 (some .int) 1 0 0 z σ [.ref 0, .int i] (some (.int (-1000000))) z σ := by
  refine Ct.ofJ RX5 rfl [some (.ref 0), some (.int i)] rfl (by decide) Nat.le.refl ?_
  refine j_iload_n dX5_trace_0 rfl rfl ?_
  refine j_if_lt 15 dX5_trace_1 (by decide) (fun b1 => ?_) (fun b1 => ?_)
  · refine j_ldc (-1000000) dX5_trace_15 kc_X5_220 ?_
    exact j_iret rfl dX5_trace_17 rfl rfl (Nat.le_of_ble_eq_true rfl) (Nat.le_of_ble_eq_true rfl)
  · refine j_iload_n dX5_trace_4 rfl rfl ?_
    refine j_aload_n dX5_trace_5 rfl rfl ?_
    refine j_getf dX5_trace_6 5 8 rfl (Nat.le_of_ble_eq_true rfl) fl_X5_47 in_5 (by first | exact X.1 | exact X.2.1 | exact X.2.2.2.1 | exact X.2.2.2.2.1 | exact X.2.2.2.2.2.2.1.o | exact X.2.2.2.2.2.2.1.c | exact X.2.2.2.2.2.2.1.i | exact X.2.2.2.2.2.2.1.p | exact X.2.2.2.2.2.2.1.d | exact X.2.2.2.2.2.2.2.1.o | exact X.2.2.2.2.2.2.2.2.1 | exact X.2.2.2.2.2.2.2.2.2.1 | exact X.2.2.2.2.2.2.2.2.2.2.2.1 | exact X.2.2.2.2.2.2.2.2.2.2.2.2.2.1 | exact X.2.2.2.2.2.2.2.2.2.2.2.2.2.2.1 | exact X.2.2.2.2.2.2.2.2.2.2.2.2.2.2.2) rfl ?_
    refine j_getf dX5_trace_9 1 1 rfl (Nat.le_of_ble_eq_true rfl) fl_X5_240 in_1 (by first | exact X.1 | exact X.2.1 | exact X.2.2.2.1 | exact X.2.2.2.2.1 | exact X.2.2.2.2.2.2.1.o | exact X.2.2.2.2.2.2.1.c | exact X.2.2.2.2.2.2.1.i | exact X.2.2.2.2.2.2.1.p | exact X.2.2.2.2.2.2.1.d | exact X.2.2.2.2.2.2.2.1.o | exact X.2.2.2.2.2.2.2.2.1 | exact X.2.2.2.2.2.2.2.2.2.1 | exact X.2.2.2.2.2.2.2.2.2.2.2.1 | exact X.2.2.2.2.2.2.2.2.2.2.2.2.2.1 | exact X.2.2.2.2.2.2.2.2.2.2.2.2.2.2.1 | exact X.2.2.2.2.2.2.2.2.2.2.2.2.2.2.2) rfl ?_
    refine j_icmp_lt 18 dX5_trace_12 (by decide) (fun b12 => ?_) (fun b12 => ?_)
    · exact absurd h (fun q => q.elim b1 (fun w => w b12))
    · refine j_ldc (-1000000) dX5_trace_15 kc_X5_220 ?_
      exact j_iret rfl dX5_trace_17 rfl rfl (Nat.le_of_ble_eq_true rfl) (Nat.le_of_ble_eq_true rfl)
theorem x_trace_ok (X : XR σ lf fd rl rn ri tp rd dd d df nx kp da di tr bo ne) {i : Nat} (h : i < tr) (ht : tr ≤ 16) : Ct G yX5_trace cX5_trace 2 (some .int) 1 0 0 z σ [.ref 0, .int (nI i)] (some (.int (bo i))) z σ := by
  refine Ct.ofJ RX5 rfl [some (.ref 0), some (.int (nI i))] rfl (by decide) Nat.le.refl ?_
  refine j_iload_n dX5_trace_0 rfl rfl ?_
  refine j_if_lt 15 dX5_trace_1 (by decide) (fun b1 => by exact absurd b1 (nI_pos (by omega))) (fun b1 => ?_)
  refine j_iload_n dX5_trace_4 rfl rfl ?_
  refine j_aload_n dX5_trace_5 rfl rfl ?_
  refine j_getf dX5_trace_6 5 8 rfl (Nat.le_of_ble_eq_true rfl) fl_X5_47 in_5 (by first | exact X.1 | exact X.2.1 | exact X.2.2.2.1 | exact X.2.2.2.2.1 | exact X.2.2.2.2.2.2.1.o | exact X.2.2.2.2.2.2.1.c | exact X.2.2.2.2.2.2.1.i | exact X.2.2.2.2.2.2.1.p | exact X.2.2.2.2.2.2.1.d | exact X.2.2.2.2.2.2.2.1.o | exact X.2.2.2.2.2.2.2.2.1 | exact X.2.2.2.2.2.2.2.2.2.1 | exact X.2.2.2.2.2.2.2.2.2.2.2.1 | exact X.2.2.2.2.2.2.2.2.2.2.2.2.2.1 | exact X.2.2.2.2.2.2.2.2.2.2.2.2.2.2.1 | exact X.2.2.2.2.2.2.2.2.2.2.2.2.2.2.2) rfl ?_
  refine j_getf dX5_trace_9 1 1 rfl (Nat.le_of_ble_eq_true rfl) fl_X5_240 in_1 (by first | exact X.1 | exact X.2.1 | exact X.2.2.2.1 | exact X.2.2.2.2.1 | exact X.2.2.2.2.2.2.1.o | exact X.2.2.2.2.2.2.1.c | exact X.2.2.2.2.2.2.1.i | exact X.2.2.2.2.2.2.1.p | exact X.2.2.2.2.2.2.1.d | exact X.2.2.2.2.2.2.2.1.o | exact X.2.2.2.2.2.2.2.2.1 | exact X.2.2.2.2.2.2.2.2.2.1 | exact X.2.2.2.2.2.2.2.2.2.2.2.1 | exact X.2.2.2.2.2.2.2.2.2.2.2.2.2.1 | exact X.2.2.2.2.2.2.2.2.2.2.2.2.2.2.1 | exact X.2.2.2.2.2.2.2.2.2.2.2.2.2.2.2) rfl ?_
  refine j_icmp_ltN 18 dX5_trace_12 (by decide) (by omega) (by omega) (fun b12 => ?_) (fun b12 => by exfalso; omega)
  refine j_aload_n dX5_trace_18 rfl rfl ?_
  refine j_getf dX5_trace_19 5 8 rfl (Nat.le_of_ble_eq_true rfl) fl_X5_47 in_5 (by first | exact X.1 | exact X.2.1 | exact X.2.2.2.1 | exact X.2.2.2.2.1 | exact X.2.2.2.2.2.2.1.o | exact X.2.2.2.2.2.2.1.c | exact X.2.2.2.2.2.2.1.i | exact X.2.2.2.2.2.2.1.p | exact X.2.2.2.2.2.2.1.d | exact X.2.2.2.2.2.2.2.1.o | exact X.2.2.2.2.2.2.2.2.1 | exact X.2.2.2.2.2.2.2.2.2.1 | exact X.2.2.2.2.2.2.2.2.2.2.2.1 | exact X.2.2.2.2.2.2.2.2.2.2.2.2.2.1 | exact X.2.2.2.2.2.2.2.2.2.2.2.2.2.2.1 | exact X.2.2.2.2.2.2.2.2.2.2.2.2.2.2.2) rfl ?_
  refine j_getf dX5_trace_22 1 0 rfl (Nat.le_of_ble_eq_true rfl) fl_X5_243 in_1 (by first | exact X.1 | exact X.2.1 | exact X.2.2.2.1 | exact X.2.2.2.2.1 | exact X.2.2.2.2.2.2.1.o | exact X.2.2.2.2.2.2.1.c | exact X.2.2.2.2.2.2.1.i | exact X.2.2.2.2.2.2.1.p | exact X.2.2.2.2.2.2.1.d | exact X.2.2.2.2.2.2.2.1.o | exact X.2.2.2.2.2.2.2.2.1 | exact X.2.2.2.2.2.2.2.2.2.1 | exact X.2.2.2.2.2.2.2.2.2.2.2.1 | exact X.2.2.2.2.2.2.2.2.2.2.2.2.2.1 | exact X.2.2.2.2.2.2.2.2.2.2.2.2.2.2.1 | exact X.2.2.2.2.2.2.2.2.2.2.2.2.2.2.2) rfl ?_
  refine j_iload_n dX5_trace_25 rfl rfl ?_
  refine j_iald dX5_trace_26 (by first | exact X.1 | exact X.2.1 | exact X.2.2.2.1 | exact X.2.2.2.2.1 | exact X.2.2.2.2.2.2.1.o | exact X.2.2.2.2.2.2.1.c | exact X.2.2.2.2.2.2.1.i | exact X.2.2.2.2.2.2.1.p | exact X.2.2.2.2.2.2.1.d | exact X.2.2.2.2.2.2.2.1.o | exact X.2.2.2.2.2.2.2.2.1 | exact X.2.2.2.2.2.2.2.2.2.1 | exact X.2.2.2.2.2.2.2.2.2.2.2.1 | exact X.2.2.2.2.2.2.2.2.2.2.2.2.2.1 | exact X.2.2.2.2.2.2.2.2.2.2.2.2.2.2.1 | exact X.2.2.2.2.2.2.2.2.2.2.2.2.2.2.2) rfl (by omega) (by decide) ?_
  exact j_iret rfl dX5_trace_27 rfl rfl (Nat.le_of_ble_eq_true rfl) (Nat.le_of_ble_eq_true rfl)
theorem c_rowsThere (X : XR σ lf fd rl rn ri tp rd dd d df nx kp da di tr bo ne) : Ct G yX5_rowsThere cX5_rowsThere 3 (some .int) 2 0 0 z σ [.ref 0] (some (.int (nI (cntR rl 8)))) z σ := by
  refine Ct.ofJ RX5 rfl [some (.ref 0), none, none] rfl (by decide) (by simp [Value.category]) ?_
  refine j_iconst (nI 0) dX5_rowsThere_0 rfl ?_
  refine j_istore_n dX5_rowsThere_1 rfl (Nat.le_of_ble_eq_true rfl) rfl ?_
  refine j_iconst (nI 0) dX5_rowsThere_2 rfl ?_
  refine j_istore_n dX5_rowsThere_3 rfl (Nat.le_of_ble_eq_true rfl) rfl ?_
  skip
  suffices H : ∀ (ki i : Nat), i ≤ 8 → 8 < i + ki → J G RX5 cX5_rowsThere 3 (some .int) (TQ G 2 0 0 (some (.int (nI (cntR rl 8)))) z σ) z σ 0 0 4 [some (.ref 0), some (.int (nI (cntR rl i))), some (.int (nI i))] [] from H (8 + 1) 0 (by omega) (by omega)
  intro ki
  induction ki with
  | zero => intro i h1i h2i; exact absurd h2i (by omega)
  | succ ki ih =>
    intro i h1i h2i
    have e1 : cntR rl (i + 1) = if rl i = -1 then cntR rl i else cntR rl i + 1 := rfl
    refine j_iload_n dX5_rowsThere_4 rfl rfl ?_
    refine j_bipush (nI 8) dX5_rowsThere_5 rfl ?_
    refine j_icmp_geN 31 dX5_rowsThere_7 (by decide) (by omega) (by omega) (fun b7 => ?_) (fun b7 => ?_)
    · obtain rfl : i = 8 := by omega
      refine j_iload_n dX5_rowsThere_31 rfl rfl ?_
      exact j_iret rfl dX5_rowsThere_32 rfl rfl (Nat.le_of_ble_eq_true rfl) (Nat.le_of_ble_eq_true rfl)
    · refine j_aload_n dX5_rowsThere_10 rfl rfl ?_
      refine j_getf dX5_rowsThere_11 5 0 rfl (Nat.le_of_ble_eq_true rfl) fl_X5_11 in_5 (by first | exact X.1 | exact X.2.1 | exact X.2.2.2.1 | exact X.2.2.2.2.1 | exact X.2.2.2.2.2.2.1.o | exact X.2.2.2.2.2.2.1.c | exact X.2.2.2.2.2.2.1.i | exact X.2.2.2.2.2.2.1.p | exact X.2.2.2.2.2.2.1.d | exact X.2.2.2.2.2.2.2.1.o | exact X.2.2.2.2.2.2.2.2.1 | exact X.2.2.2.2.2.2.2.2.2.1 | exact X.2.2.2.2.2.2.2.2.2.2.2.1 | exact X.2.2.2.2.2.2.2.2.2.2.2.2.2.1 | exact X.2.2.2.2.2.2.2.2.2.2.2.2.2.2.1 | exact X.2.2.2.2.2.2.2.2.2.2.2.2.2.2.2) rfl ?_
      refine j_iload_n dX5_rowsThere_14 rfl rfl ?_
      refine j_aaldL 3 8 2 2 dX5_rowsThere_15 (by first | exact X.1 | exact X.2.1 | exact X.2.2.2.1 | exact X.2.2.2.2.1 | exact X.2.2.2.2.2.2.1.o | exact X.2.2.2.2.2.2.1.c | exact X.2.2.2.2.2.2.1.i | exact X.2.2.2.2.2.2.1.p | exact X.2.2.2.2.2.2.1.d | exact X.2.2.2.2.2.2.2.1.o | exact X.2.2.2.2.2.2.2.2.1 | exact X.2.2.2.2.2.2.2.2.2.1 | exact X.2.2.2.2.2.2.2.2.2.2.2.1 | exact X.2.2.2.2.2.2.2.2.2.2.2.2.2.1 | exact X.2.2.2.2.2.2.2.2.2.2.2.2.2.2.1 | exact X.2.2.2.2.2.2.2.2.2.2.2.2.2.2.2) (by decide) rfl (by omega) (by decide) ?_
      refine j_callV (c_isMissingR (X.2.2.1 i (by omega))) dX5_rowsThere_16 rfl mv_X5_71 (X.2.2.1 i (by omega)).o rfl ⟨(Nat.le_of_ble_eq_true rfl), (Nat.le_of_ble_eq_true rfl)⟩ ⟨(Nat.le_of_ble_eq_true rfl), (Nat.le_of_ble_eq_true rfl)⟩ (Nat.le_of_ble_eq_true rfl) ?_
      refine j_if_ne 25 dX5_rowsThere_19 (by decide) (fun b19 => ?_) (fun b19 => ?_)
      · first | refine j_iincN dX5_rowsThere_25 rfl (Nat.le_of_ble_eq_true rfl) rfl ?_ | refine j_iinc _ dX5_rowsThere_25 rfl rfl (Nat.le_of_ble_eq_true rfl) rfl ?_
        refine j_goto 4 dX5_rowsThere_28 (by decide) ?_
        have ih2 := ih (i + 1) (by omega) (by omega)
        rw [e1] at ih2
        by_cases hm : rl i = -1
        · first | (rw [if_pos hm] at b19; exact absurd b19 (by decide)) | (rw [if_pos hm] at ih2; exact ih2)
        · first | (rw [if_neg hm] at b19; exact absurd rfl b19) | (rw [if_neg hm] at ih2; exact ih2)
      · first | refine j_iincN dX5_rowsThere_22 rfl (Nat.le_of_ble_eq_true rfl) rfl ?_ | refine j_iinc _ dX5_rowsThere_22 rfl rfl (Nat.le_of_ble_eq_true rfl) rfl ?_
        first | refine j_iincN dX5_rowsThere_25 rfl (Nat.le_of_ble_eq_true rfl) rfl ?_ | refine j_iinc _ dX5_rowsThere_25 rfl rfl (Nat.le_of_ble_eq_true rfl) rfl ?_
        refine j_goto 4 dX5_rowsThere_28 (by decide) ?_
        have ih2 := ih (i + 1) (by omega) (by omega)
        rw [e1] at ih2
        by_cases hm : rl i = -1
        · first | (rw [if_pos hm] at b19; exact absurd b19 (by decide)) | (rw [if_pos hm] at ih2; exact ih2)
        · first | (rw [if_neg hm] at b19; exact absurd rfl b19) | (rw [if_neg hm] at ih2; exact ih2)
theorem x_count_0 (X : XR σ lf fd rl rn ri tp rd dd d df nx kp da di tr bo ne) : Ct G yX5_count cX5_count 2 (some .int) 3 0 0 z σ [.ref 0, .int (nI 0)] (some (.int (nI (cntR rl 8)))) z σ := by
  refine Ct.ofJ RX5 rfl [some (.ref 0), some (.int (nI 0))] rfl (by decide) Nat.le.refl ?_
  refine j_iload_n dX5_count_0 rfl rfl ?_
  refine j_tabK 0 44 dX5_count_1 rfl (by decide) (by decide) (by decide) rfl (by decide) ?_
  refine j_aload_n dX5_count_44 rfl rfl ?_
  refine j_callV (c_rowsThere X) dX5_count_45 rfl mv_X5_246 (by first | exact X.1 | exact X.2.1 | exact X.2.2.2.1 | exact X.2.2.2.2.1 | exact X.2.2.2.2.2.2.1.o | exact X.2.2.2.2.2.2.1.c | exact X.2.2.2.2.2.2.1.i | exact X.2.2.2.2.2.2.1.p | exact X.2.2.2.2.2.2.1.d | exact X.2.2.2.2.2.2.2.1.o | exact X.2.2.2.2.2.2.2.2.1 | exact X.2.2.2.2.2.2.2.2.2.1 | exact X.2.2.2.2.2.2.2.2.2.2.2.1 | exact X.2.2.2.2.2.2.2.2.2.2.2.2.2.1 | exact X.2.2.2.2.2.2.2.2.2.2.2.2.2.2.1 | exact X.2.2.2.2.2.2.2.2.2.2.2.2.2.2.2) rfl ⟨(Nat.le_of_ble_eq_true rfl), (Nat.le_of_ble_eq_true rfl)⟩ ⟨(Nat.le_of_ble_eq_true rfl), (Nat.le_of_ble_eq_true rfl)⟩ (Nat.le_of_ble_eq_true rfl) ?_
  exact j_iret rfl dX5_count_48 rfl rfl (Nat.le_of_ble_eq_true rfl) (Nat.le_of_ble_eq_true rfl)
theorem x_count_1 (X : XR σ lf fd rl rn ri tp rd dd d df nx kp da di tr bo ne) : Ct G yX5_count cX5_count 2 (some .int) 3 0 0 z σ [.ref 0, .int (nI 1)] (some (.int (nI (sN d)))) z σ := by
  refine Ct.ofJ RX5 rfl [some (.ref 0), some (.int (nI 1))] rfl (by decide) Nat.le.refl ?_
  refine j_iload_n dX5_count_0 rfl rfl ?_
  refine j_tabK 1 49 dX5_count_1 rfl (by decide) (by decide) (by decide) rfl (by decide) ?_
  refine j_aload_n dX5_count_49 rfl rfl ?_
  refine j_getf dX5_count_50 5 4 rfl (Nat.le_of_ble_eq_true rfl) fl_X5_26 in_5 (by first | exact X.1 | exact X.2.1 | exact X.2.2.2.1 | exact X.2.2.2.2.1 | exact X.2.2.2.2.2.2.1.o | exact X.2.2.2.2.2.2.1.c | exact X.2.2.2.2.2.2.1.i | exact X.2.2.2.2.2.2.1.p | exact X.2.2.2.2.2.2.1.d | exact X.2.2.2.2.2.2.2.1.o | exact X.2.2.2.2.2.2.2.2.1 | exact X.2.2.2.2.2.2.2.2.2.1 | exact X.2.2.2.2.2.2.2.2.2.2.2.1 | exact X.2.2.2.2.2.2.2.2.2.2.2.2.2.1 | exact X.2.2.2.2.2.2.2.2.2.2.2.2.2.2.1 | exact X.2.2.2.2.2.2.2.2.2.2.2.2.2.2.2) rfl ?_
  refine j_getf dX5_count_53 4 4 rfl (Nat.le_of_ble_eq_true rfl) fl_X5_131 in_4 (by first | exact X.1 | exact X.2.1 | exact X.2.2.2.1 | exact X.2.2.2.2.1 | exact X.2.2.2.2.2.2.1.o | exact X.2.2.2.2.2.2.1.c | exact X.2.2.2.2.2.2.1.i | exact X.2.2.2.2.2.2.1.p | exact X.2.2.2.2.2.2.1.d | exact X.2.2.2.2.2.2.2.1.o | exact X.2.2.2.2.2.2.2.2.1 | exact X.2.2.2.2.2.2.2.2.2.1 | exact X.2.2.2.2.2.2.2.2.2.2.2.1 | exact X.2.2.2.2.2.2.2.2.2.2.2.2.2.1 | exact X.2.2.2.2.2.2.2.2.2.2.2.2.2.2.1 | exact X.2.2.2.2.2.2.2.2.2.2.2.2.2.2.2) rfl ?_
  exact j_iret rfl dX5_count_56 rfl rfl (Nat.le_of_ble_eq_true rfl) (Nat.le_of_ble_eq_true rfl)
theorem x_count_2 (X : XR σ lf fd rl rn ri tp rd dd d df nx kp da di tr bo ne) (hN : sN d ≤ 7) : Ct G yX5_count cX5_count 2 (some .int) 3 0 0 z σ [.ref 0, .int (nI 2)] (some (.int (nI (cntDs (sD d) (sN d) (sN d))))) z σ := by
  refine Ct.ofJ RX5 rfl [some (.ref 0), some (.int (nI 2))] rfl (by decide) Nat.le.refl ?_
  refine j_iload_n dX5_count_0 rfl rfl ?_
  refine j_tabK 2 57 dX5_count_1 rfl (by decide) (by decide) (by decide) rfl (by decide) ?_
  refine j_aload_n dX5_count_57 rfl rfl ?_
  refine j_getf dX5_count_58 5 4 rfl (Nat.le_of_ble_eq_true rfl) fl_X5_26 in_5 (by first | exact X.1 | exact X.2.1 | exact X.2.2.2.1 | exact X.2.2.2.2.1 | exact X.2.2.2.2.2.2.1.o | exact X.2.2.2.2.2.2.1.c | exact X.2.2.2.2.2.2.1.i | exact X.2.2.2.2.2.2.1.p | exact X.2.2.2.2.2.2.1.d | exact X.2.2.2.2.2.2.2.1.o | exact X.2.2.2.2.2.2.2.2.1 | exact X.2.2.2.2.2.2.2.2.2.1 | exact X.2.2.2.2.2.2.2.2.2.2.2.1 | exact X.2.2.2.2.2.2.2.2.2.2.2.2.2.1 | exact X.2.2.2.2.2.2.2.2.2.2.2.2.2.2.1 | exact X.2.2.2.2.2.2.2.2.2.2.2.2.2.2.2) rfl ?_
  refine j_callV (c_debtsAboveNoneS X.2.2.2.2.2.2.1 hN) dX5_count_61 rfl mv_X5_249 (by first | exact X.1 | exact X.2.1 | exact X.2.2.2.1 | exact X.2.2.2.2.1 | exact X.2.2.2.2.2.2.1.o | exact X.2.2.2.2.2.2.1.c | exact X.2.2.2.2.2.2.1.i | exact X.2.2.2.2.2.2.1.p | exact X.2.2.2.2.2.2.1.d | exact X.2.2.2.2.2.2.2.1.o | exact X.2.2.2.2.2.2.2.2.1 | exact X.2.2.2.2.2.2.2.2.2.1 | exact X.2.2.2.2.2.2.2.2.2.2.2.1 | exact X.2.2.2.2.2.2.2.2.2.2.2.2.2.1 | exact X.2.2.2.2.2.2.2.2.2.2.2.2.2.2.1 | exact X.2.2.2.2.2.2.2.2.2.2.2.2.2.2.2) rfl ⟨(Nat.le_of_ble_eq_true rfl), (Nat.le_of_ble_eq_true rfl)⟩ ⟨(Nat.le_of_ble_eq_true rfl), (Nat.le_of_ble_eq_true rfl)⟩ (Nat.le_of_ble_eq_true rfl) ?_
  exact j_iret rfl dX5_count_64 rfl rfl (Nat.le_of_ble_eq_true rfl) (Nat.le_of_ble_eq_true rfl)
theorem x_count_3 (X : XR σ lf fd rl rn ri tp rd dd d df nx kp da di tr bo ne) : Ct G yX5_count cX5_count 2 (some .int) 3 0 0 z σ [.ref 0, .int (nI 3)] (some (.int (nI (sQ d)))) z σ := by
  refine Ct.ofJ RX5 rfl [some (.ref 0), some (.int (nI 3))] rfl (by decide) Nat.le.refl ?_
  refine j_iload_n dX5_count_0 rfl rfl ?_
  refine j_tabK 3 65 dX5_count_1 rfl (by decide) (by decide) (by decide) rfl (by decide) ?_
  refine j_aload_n dX5_count_65 rfl rfl ?_
  refine j_getf dX5_count_66 5 4 rfl (Nat.le_of_ble_eq_true rfl) fl_X5_26 in_5 (by first | exact X.1 | exact X.2.1 | exact X.2.2.2.1 | exact X.2.2.2.2.1 | exact X.2.2.2.2.2.2.1.o | exact X.2.2.2.2.2.2.1.c | exact X.2.2.2.2.2.2.1.i | exact X.2.2.2.2.2.2.1.p | exact X.2.2.2.2.2.2.1.d | exact X.2.2.2.2.2.2.2.1.o | exact X.2.2.2.2.2.2.2.2.1 | exact X.2.2.2.2.2.2.2.2.2.1 | exact X.2.2.2.2.2.2.2.2.2.2.2.1 | exact X.2.2.2.2.2.2.2.2.2.2.2.2.2.1 | exact X.2.2.2.2.2.2.2.2.2.2.2.2.2.2.1 | exact X.2.2.2.2.2.2.2.2.2.2.2.2.2.2.2) rfl ?_
  refine j_getf dX5_count_69 4 7 rfl (Nat.le_of_ble_eq_true rfl) fl_X5_174 in_4 (by first | exact X.1 | exact X.2.1 | exact X.2.2.2.1 | exact X.2.2.2.2.1 | exact X.2.2.2.2.2.2.1.o | exact X.2.2.2.2.2.2.1.c | exact X.2.2.2.2.2.2.1.i | exact X.2.2.2.2.2.2.1.p | exact X.2.2.2.2.2.2.1.d | exact X.2.2.2.2.2.2.2.1.o | exact X.2.2.2.2.2.2.2.2.1 | exact X.2.2.2.2.2.2.2.2.2.1 | exact X.2.2.2.2.2.2.2.2.2.2.2.1 | exact X.2.2.2.2.2.2.2.2.2.2.2.2.2.1 | exact X.2.2.2.2.2.2.2.2.2.2.2.2.2.2.1 | exact X.2.2.2.2.2.2.2.2.2.2.2.2.2.2.2) rfl ?_
  exact j_iret rfl dX5_count_72 rfl rfl (Nat.le_of_ble_eq_true rfl) (Nat.le_of_ble_eq_true rfl)
theorem x_count_4 (X : XR σ lf fd rl rn ri tp rd dd d df nx kp da di tr bo ne) : Ct G yX5_count cX5_count 2 (some .int) 3 0 0 z σ [.ref 0, .int (nI 4)] (some (.int (nI kp))) z σ := by
  refine Ct.ofJ RX5 rfl [some (.ref 0), some (.int (nI 4))] rfl (by decide) Nat.le.refl ?_
  refine j_iload_n dX5_count_0 rfl rfl ?_
  refine j_tabK 4 73 dX5_count_1 rfl (by decide) (by decide) (by decide) rfl (by decide) ?_
  refine j_aload_n dX5_count_73 rfl rfl ?_
  refine j_getf dX5_count_74 5 6 rfl (Nat.le_of_ble_eq_true rfl) fl_X5_36 in_5 (by first | exact X.1 | exact X.2.1 | exact X.2.2.2.1 | exact X.2.2.2.2.1 | exact X.2.2.2.2.2.2.1.o | exact X.2.2.2.2.2.2.1.c | exact X.2.2.2.2.2.2.1.i | exact X.2.2.2.2.2.2.1.p | exact X.2.2.2.2.2.2.1.d | exact X.2.2.2.2.2.2.2.1.o | exact X.2.2.2.2.2.2.2.2.1 | exact X.2.2.2.2.2.2.2.2.2.1 | exact X.2.2.2.2.2.2.2.2.2.2.2.1 | exact X.2.2.2.2.2.2.2.2.2.2.2.2.2.1 | exact X.2.2.2.2.2.2.2.2.2.2.2.2.2.2.1 | exact X.2.2.2.2.2.2.2.2.2.2.2.2.2.2.2) rfl ?_
  refine j_getf dX5_count_77 0 2 rfl (Nat.le_of_ble_eq_true rfl) fl_X5_181 in_0 (by first | exact X.1 | exact X.2.1 | exact X.2.2.2.1 | exact X.2.2.2.2.1 | exact X.2.2.2.2.2.2.1.o | exact X.2.2.2.2.2.2.1.c | exact X.2.2.2.2.2.2.1.i | exact X.2.2.2.2.2.2.1.p | exact X.2.2.2.2.2.2.1.d | exact X.2.2.2.2.2.2.2.1.o | exact X.2.2.2.2.2.2.2.2.1 | exact X.2.2.2.2.2.2.2.2.2.1 | exact X.2.2.2.2.2.2.2.2.2.2.2.1 | exact X.2.2.2.2.2.2.2.2.2.2.2.2.2.1 | exact X.2.2.2.2.2.2.2.2.2.2.2.2.2.2.1 | exact X.2.2.2.2.2.2.2.2.2.2.2.2.2.2.2) rfl ?_
  exact j_iret rfl dX5_count_80 rfl rfl (Nat.le_of_ble_eq_true rfl) (Nat.le_of_ble_eq_true rfl)
theorem x_count_5 (X : XR σ lf fd rl rn ri tp rd dd d df nx kp da di tr bo ne) (hN : sN d ≤ 7) : Ct G yX5_count cX5_count 2 (some .int) 3 0 0 z σ [.ref 0, .int (nI 5)] (some (.int (sumR (sC d) (sN d)))) z σ := by
  refine Ct.ofJ RX5 rfl [some (.ref 0), some (.int (nI 5))] rfl (by decide) Nat.le.refl ?_
  refine j_iload_n dX5_count_0 rfl rfl ?_
  refine j_tabK 5 81 dX5_count_1 rfl (by decide) (by decide) (by decide) rfl (by decide) ?_
  refine j_aload_n dX5_count_81 rfl rfl ?_
  refine j_getf dX5_count_82 5 4 rfl (Nat.le_of_ble_eq_true rfl) fl_X5_26 in_5 (by first | exact X.1 | exact X.2.1 | exact X.2.2.2.1 | exact X.2.2.2.2.1 | exact X.2.2.2.2.2.2.1.o | exact X.2.2.2.2.2.2.1.c | exact X.2.2.2.2.2.2.1.i | exact X.2.2.2.2.2.2.1.p | exact X.2.2.2.2.2.2.1.d | exact X.2.2.2.2.2.2.2.1.o | exact X.2.2.2.2.2.2.2.2.1 | exact X.2.2.2.2.2.2.2.2.2.1 | exact X.2.2.2.2.2.2.2.2.2.2.2.1 | exact X.2.2.2.2.2.2.2.2.2.2.2.2.2.1 | exact X.2.2.2.2.2.2.2.2.2.2.2.2.2.2.1 | exact X.2.2.2.2.2.2.2.2.2.2.2.2.2.2.2) rfl ?_
  refine j_callV (c_cashOfAllS X.2.2.2.2.2.2.1 hN) dX5_count_85 rfl mv_X5_252 (by first | exact X.1 | exact X.2.1 | exact X.2.2.2.1 | exact X.2.2.2.2.1 | exact X.2.2.2.2.2.2.1.o | exact X.2.2.2.2.2.2.1.c | exact X.2.2.2.2.2.2.1.i | exact X.2.2.2.2.2.2.1.p | exact X.2.2.2.2.2.2.1.d | exact X.2.2.2.2.2.2.2.1.o | exact X.2.2.2.2.2.2.2.2.1 | exact X.2.2.2.2.2.2.2.2.2.1 | exact X.2.2.2.2.2.2.2.2.2.2.2.1 | exact X.2.2.2.2.2.2.2.2.2.2.2.2.2.1 | exact X.2.2.2.2.2.2.2.2.2.2.2.2.2.2.1 | exact X.2.2.2.2.2.2.2.2.2.2.2.2.2.2.2) rfl ⟨(Nat.le_of_ble_eq_true rfl), (Nat.le_of_ble_eq_true rfl)⟩ ⟨(Nat.le_of_ble_eq_true rfl), (Nat.le_of_ble_eq_true rfl)⟩ (Nat.le_of_ble_eq_true rfl) ?_
  exact j_iret rfl dX5_count_88 rfl rfl (Nat.le_of_ble_eq_true rfl) (Nat.le_of_ble_eq_true rfl)
theorem x_count_6 (X : XR σ lf fd rl rn ri tp rd dd d df nx kp da di tr bo ne) : Ct G yX5_count cX5_count 2 (some .int) 3 0 0 z σ [.ref 0, .int (nI 6)] (some (.int (rd 0))) z σ := by
  refine Ct.ofJ RX5 rfl [some (.ref 0), some (.int (nI 6))] rfl (by decide) Nat.le.refl ?_
  refine j_iload_n dX5_count_0 rfl rfl ?_
  refine j_tabK 6 89 dX5_count_1 rfl (by decide) (by decide) (by decide) rfl (by decide) ?_
  refine j_aload_n dX5_count_89 rfl rfl ?_
  refine j_getf dX5_count_90 5 1 rfl (Nat.le_of_ble_eq_true rfl) fl_X5_19 in_5 (by first | exact X.1 | exact X.2.1 | exact X.2.2.2.1 | exact X.2.2.2.2.1 | exact X.2.2.2.2.2.2.1.o | exact X.2.2.2.2.2.2.1.c | exact X.2.2.2.2.2.2.1.i | exact X.2.2.2.2.2.2.1.p | exact X.2.2.2.2.2.2.1.d | exact X.2.2.2.2.2.2.2.1.o | exact X.2.2.2.2.2.2.2.2.1 | exact X.2.2.2.2.2.2.2.2.2.1 | exact X.2.2.2.2.2.2.2.2.2.2.2.1 | exact X.2.2.2.2.2.2.2.2.2.2.2.2.2.1 | exact X.2.2.2.2.2.2.2.2.2.2.2.2.2.2.1 | exact X.2.2.2.2.2.2.2.2.2.2.2.2.2.2.2) rfl ?_
  refine j_getf dX5_count_93 2 2 rfl (Nat.le_of_ble_eq_true rfl) fl_X5_102 in_2 (by first | exact X.1 | exact X.2.1 | exact X.2.2.2.1 | exact X.2.2.2.2.1 | exact X.2.2.2.2.2.2.1.o | exact X.2.2.2.2.2.2.1.c | exact X.2.2.2.2.2.2.1.i | exact X.2.2.2.2.2.2.1.p | exact X.2.2.2.2.2.2.1.d | exact X.2.2.2.2.2.2.2.1.o | exact X.2.2.2.2.2.2.2.2.1 | exact X.2.2.2.2.2.2.2.2.2.1 | exact X.2.2.2.2.2.2.2.2.2.2.2.1 | exact X.2.2.2.2.2.2.2.2.2.2.2.2.2.1 | exact X.2.2.2.2.2.2.2.2.2.2.2.2.2.2.1 | exact X.2.2.2.2.2.2.2.2.2.2.2.2.2.2.2) rfl ?_
  exact j_iret rfl dX5_count_96 rfl rfl (Nat.le_of_ble_eq_true rfl) (Nat.le_of_ble_eq_true rfl)
theorem x_count_bad (X : XR σ lf fd rl rn ri tp rd dd d df nx kp da di tr bo ne) (w : Int32) (h : w.toInt < 0 ∨ 6 < w.toInt) : Ct G yX5_count cX5_count 2 (some .int) 3 0 0 z σ [.ref 0, .int w] (some (.int (-1000001))) z σ := by
  refine Ct.ofJ RX5 rfl [some (.ref 0), some (.int w)] rfl (by decide) Nat.le.refl ?_
  refine j_iload_n dX5_count_0 rfl rfl ?_
  refine j_tabOut 97 dX5_count_1 h (by decide) ?_
  refine j_ldc (-1000001) dX5_count_97 kc_X5_59 ?_
  exact j_iret rfl dX5_count_99 rfl rfl (Nat.le_of_ble_eq_true rfl) (Nat.le_of_ble_eq_true rfl)
theorem x_cheats_state (X : XR σ lf fd rl rn ri tp rd dd d df nx kp da di tr bo ne) (h : sN d = 0) : Ct G yX5_cheats cX5_cheats 3 (some .int) 5 0 0 z σ [.ref 0] (some (.int (-1000002))) z σ := by
  refine Ct.ofJ RX5 rfl [some (.ref 0), none, none] rfl (by decide) (by simp [Value.category]) ?_
  refine j_aload_n dX5_cheats_0 rfl rfl ?_
  refine j_callV (c_isNoTown X) dX5_cheats_1 rfl mv_X5_170 (by first | exact X.1 | exact X.2.1 | exact X.2.2.2.1 | exact X.2.2.2.2.1 | exact X.2.2.2.2.2.2.1.o | exact X.2.2.2.2.2.2.1.c | exact X.2.2.2.2.2.2.1.i | exact X.2.2.2.2.2.2.1.p | exact X.2.2.2.2.2.2.1.d | exact X.2.2.2.2.2.2.2.1.o | exact X.2.2.2.2.2.2.2.2.1 | exact X.2.2.2.2.2.2.2.2.2.1 | exact X.2.2.2.2.2.2.2.2.2.2.2.1 | exact X.2.2.2.2.2.2.2.2.2.2.2.2.2.1 | exact X.2.2.2.2.2.2.2.2.2.2.2.2.2.2.1 | exact X.2.2.2.2.2.2.2.2.2.2.2.2.2.2.2) rfl ⟨(Nat.le_of_ble_eq_true rfl), (Nat.le_of_ble_eq_true rfl)⟩ ⟨(Nat.le_of_ble_eq_true rfl), (Nat.le_of_ble_eq_true rfl)⟩ (Nat.le_of_ble_eq_true rfl) ?_
  refine j_top (nI 1) (by rw [h]; rfl) ?_
  refine j_if_eq 10 dX5_cheats_4 (by decide) (fun h => absurd h (by decide)) (fun _ => ?_)
  refine j_ldc (-1000002) dX5_cheats_7 kc_X5_140 ?_
  exact j_iret rfl dX5_cheats_9 rfl rfl (Nat.le_of_ble_eq_true rfl) (Nat.le_of_ble_eq_true rfl)
theorem x_cheats_ok (X : XR σ lf fd rl rn ri tp rd dd d df nx kp da di tr bo ne) (hN : sN d ≤ 7) (h0 : 1 ≤ sN d) (hu : 1 ≤ sU d) (hu2 : sU d ≤ 20) : Ct G yX5_cheats cX5_cheats 3 (some .int) 5 0 0 z σ [.ref 0] (some (.int (chI (sP d) (sD d) (sN d) (sU d) (sN d)))) z σ := by
  refine Ct.ofJ RX5 rfl [some (.ref 0), none, none] rfl (by decide) (by simp [Value.category]) ?_
  refine j_aload_n dX5_cheats_0 rfl rfl ?_
  refine j_callV (c_isNoTown X) dX5_cheats_1 rfl mv_X5_170 (by first | exact X.1 | exact X.2.1 | exact X.2.2.2.1 | exact X.2.2.2.2.1 | exact X.2.2.2.2.2.2.1.o | exact X.2.2.2.2.2.2.1.c | exact X.2.2.2.2.2.2.1.i | exact X.2.2.2.2.2.2.1.p | exact X.2.2.2.2.2.2.1.d | exact X.2.2.2.2.2.2.2.1.o | exact X.2.2.2.2.2.2.2.2.1 | exact X.2.2.2.2.2.2.2.2.2.1 | exact X.2.2.2.2.2.2.2.2.2.2.2.1 | exact X.2.2.2.2.2.2.2.2.2.2.2.2.2.1 | exact X.2.2.2.2.2.2.2.2.2.2.2.2.2.2.1 | exact X.2.2.2.2.2.2.2.2.2.2.2.2.2.2.2) rfl ⟨(Nat.le_of_ble_eq_true rfl), (Nat.le_of_ble_eq_true rfl)⟩ ⟨(Nat.le_of_ble_eq_true rfl), (Nat.le_of_ble_eq_true rfl)⟩ (Nat.le_of_ble_eq_true rfl) ?_
  refine j_top (nI 0) (ntI_k h0 hN) ?_
  refine j_if_eq 10 dX5_cheats_4 (by decide) (fun _ => ?_) (fun h => absurd rfl h)
  refine j_iconst (nI 0) dX5_cheats_10 rfl ?_
  refine j_istore_n dX5_cheats_11 rfl (Nat.le_of_ble_eq_true rfl) rfl ?_
  refine j_iconst (nI 0) dX5_cheats_12 rfl ?_
  refine j_istore_n dX5_cheats_13 rfl (Nat.le_of_ble_eq_true rfl) rfl ?_
  skip
  suffices H : ∀ (ki i : Nat), i ≤ (sN d) → (sN d) < i + ki → J G RX5 cX5_cheats 3 (some .int) (TQ G 5 0 0 (some (.int (chI (sP d) (sD d) (sN d) (sU d) (sN d)))) z σ) z σ 0 0 14 [some (.ref 0), some (.int (chI (sP d) (sD d) (sN d) (sU d) i)), some (.int (nI i))] [] from H ((sN d) + 1) 0 (by omega) (by omega)
  intro ki
  induction ki with
  | zero => intro i h1i h2i; exact absurd h2i (by omega)
  | succ ki ih =>
    intro i h1i h2i
    have e1 : chI (sP d) (sD d) (sN d) (sU d) (i + 1) = if shd (sD d) (sN d) (sU d) i ≤ lks (sP d) (sD d) (sN d) (sU d) i then chI (sP d) (sD d) (sN d) (sU d) i else orI (chI (sP d) (sD d) (sN d) (sU d) i) i := rfl
    refine j_iload_n dX5_cheats_14 rfl rfl ?_
    refine j_aload_n dX5_cheats_15 rfl rfl ?_
    refine j_getf dX5_cheats_16 5 4 rfl (Nat.le_of_ble_eq_true rfl) fl_X5_26 in_5 (by first | exact X.1 | exact X.2.1 | exact X.2.2.2.1 | exact X.2.2.2.2.1 | exact X.2.2.2.2.2.2.1.o | exact X.2.2.2.2.2.2.1.c | exact X.2.2.2.2.2.2.1.i | exact X.2.2.2.2.2.2.1.p | exact X.2.2.2.2.2.2.1.d | exact X.2.2.2.2.2.2.2.1.o | exact X.2.2.2.2.2.2.2.2.1 | exact X.2.2.2.2.2.2.2.2.2.1 | exact X.2.2.2.2.2.2.2.2.2.2.2.1 | exact X.2.2.2.2.2.2.2.2.2.2.2.2.2.1 | exact X.2.2.2.2.2.2.2.2.2.2.2.2.2.2.1 | exact X.2.2.2.2.2.2.2.2.2.2.2.2.2.2.2) rfl ?_
    refine j_getf dX5_cheats_19 4 4 rfl (Nat.le_of_ble_eq_true rfl) fl_X5_131 in_4 (by first | exact X.1 | exact X.2.1 | exact X.2.2.2.1 | exact X.2.2.2.2.1 | exact X.2.2.2.2.2.2.1.o | exact X.2.2.2.2.2.2.1.c | exact X.2.2.2.2.2.2.1.i | exact X.2.2.2.2.2.2.1.p | exact X.2.2.2.2.2.2.1.d | exact X.2.2.2.2.2.2.2.1.o | exact X.2.2.2.2.2.2.2.2.1 | exact X.2.2.2.2.2.2.2.2.2.1 | exact X.2.2.2.2.2.2.2.2.2.2.2.1 | exact X.2.2.2.2.2.2.2.2.2.2.2.2.2.1 | exact X.2.2.2.2.2.2.2.2.2.2.2.2.2.2.1 | exact X.2.2.2.2.2.2.2.2.2.2.2.2.2.2.2) rfl ?_
    refine j_icmp_geN 56 dX5_cheats_22 (by decide) (by omega) (by omega) (fun b22 => ?_) (fun b22 => ?_)
    · obtain rfl : i = sN d := by omega
      refine j_iload_n dX5_cheats_56 rfl rfl ?_
      exact j_iret rfl dX5_cheats_57 rfl rfl (Nat.le_of_ble_eq_true rfl) (Nat.le_of_ble_eq_true rfl)
    · refine j_aload_n dX5_cheats_25 rfl rfl ?_
      refine j_getf dX5_cheats_26 5 4 rfl (Nat.le_of_ble_eq_true rfl) fl_X5_26 in_5 (by first | exact X.1 | exact X.2.1 | exact X.2.2.2.1 | exact X.2.2.2.2.1 | exact X.2.2.2.2.2.2.1.o | exact X.2.2.2.2.2.2.1.c | exact X.2.2.2.2.2.2.1.i | exact X.2.2.2.2.2.2.1.p | exact X.2.2.2.2.2.2.1.d | exact X.2.2.2.2.2.2.2.1.o | exact X.2.2.2.2.2.2.2.2.1 | exact X.2.2.2.2.2.2.2.2.2.1 | exact X.2.2.2.2.2.2.2.2.2.2.2.1 | exact X.2.2.2.2.2.2.2.2.2.2.2.2.2.1 | exact X.2.2.2.2.2.2.2.2.2.2.2.2.2.2.1 | exact X.2.2.2.2.2.2.2.2.2.2.2.2.2.2.2) rfl ?_
      refine j_iload_n dX5_cheats_29 rfl rfl ?_
      refine j_callV (c_looksOfS X.2.2.2.2.2.2.1 hN (by omega) hu hu2) dX5_cheats_30 rfl mv_X5_158 (by first | exact X.1 | exact X.2.1 | exact X.2.2.2.1 | exact X.2.2.2.2.1 | exact X.2.2.2.2.2.2.1.o | exact X.2.2.2.2.2.2.1.c | exact X.2.2.2.2.2.2.1.i | exact X.2.2.2.2.2.2.1.p | exact X.2.2.2.2.2.2.1.d | exact X.2.2.2.2.2.2.2.1.o | exact X.2.2.2.2.2.2.2.2.1 | exact X.2.2.2.2.2.2.2.2.2.1 | exact X.2.2.2.2.2.2.2.2.2.2.2.1 | exact X.2.2.2.2.2.2.2.2.2.2.2.2.2.1 | exact X.2.2.2.2.2.2.2.2.2.2.2.2.2.2.1 | exact X.2.2.2.2.2.2.2.2.2.2.2.2.2.2.2) rfl ⟨(Nat.le_of_ble_eq_true rfl), (Nat.le_of_ble_eq_true rfl)⟩ ⟨(Nat.le_of_ble_eq_true rfl), (Nat.le_of_ble_eq_true rfl)⟩ (Nat.le_of_ble_eq_true rfl) ?_
      refine j_aload_n dX5_cheats_33 rfl rfl ?_
      refine j_getf dX5_cheats_34 5 4 rfl (Nat.le_of_ble_eq_true rfl) fl_X5_26 in_5 (by first | exact X.1 | exact X.2.1 | exact X.2.2.2.1 | exact X.2.2.2.2.1 | exact X.2.2.2.2.2.2.1.o | exact X.2.2.2.2.2.2.1.c | exact X.2.2.2.2.2.2.1.i | exact X.2.2.2.2.2.2.1.p | exact X.2.2.2.2.2.2.1.d | exact X.2.2.2.2.2.2.2.1.o | exact X.2.2.2.2.2.2.2.2.1 | exact X.2.2.2.2.2.2.2.2.2.1 | exact X.2.2.2.2.2.2.2.2.2.2.2.1 | exact X.2.2.2.2.2.2.2.2.2.2.2.2.2.1 | exact X.2.2.2.2.2.2.2.2.2.2.2.2.2.2.1 | exact X.2.2.2.2.2.2.2.2.2.2.2.2.2.2.2) rfl ?_
      refine j_iload_n dX5_cheats_37 rfl rfl ?_
      refine j_callV (c_shadeOfS X.2.2.2.2.2.2.1 hN (by omega) hu hu2) dX5_cheats_38 rfl mv_X5_193 (by first | exact X.1 | exact X.2.1 | exact X.2.2.2.1 | exact X.2.2.2.2.1 | exact X.2.2.2.2.2.2.1.o | exact X.2.2.2.2.2.2.1.c | exact X.2.2.2.2.2.2.1.i | exact X.2.2.2.2.2.2.1.p | exact X.2.2.2.2.2.2.1.d | exact X.2.2.2.2.2.2.2.1.o | exact X.2.2.2.2.2.2.2.2.1 | exact X.2.2.2.2.2.2.2.2.2.1 | exact X.2.2.2.2.2.2.2.2.2.2.2.1 | exact X.2.2.2.2.2.2.2.2.2.2.2.2.2.1 | exact X.2.2.2.2.2.2.2.2.2.2.2.2.2.2.1 | exact X.2.2.2.2.2.2.2.2.2.2.2.2.2.2.2) rfl ⟨(Nat.le_of_ble_eq_true rfl), (Nat.le_of_ble_eq_true rfl)⟩ ⟨(Nat.le_of_ble_eq_true rfl), (Nat.le_of_ble_eq_true rfl)⟩ (Nat.le_of_ble_eq_true rfl) ?_
      refine j_icmp_ge 50 dX5_cheats_41 (by decide) (fun b41 => ?_) (fun b41 => ?_)
      · first | refine j_iincN dX5_cheats_50 rfl (Nat.le_of_ble_eq_true rfl) rfl ?_ | refine j_iinc _ dX5_cheats_50 rfl rfl (Nat.le_of_ble_eq_true rfl) rfl ?_
        refine j_goto 14 dX5_cheats_53 (by decide) ?_
        have ih2 := ih (i + 1) (by omega) (by omega)
        first | (rw [e1, if_pos b41] at ih2; exact ih2) | (rw [e1, if_neg b41] at ih2; exact ih2)
      · refine j_iload_n dX5_cheats_44 rfl rfl ?_
        refine j_iconst (nI 1) dX5_cheats_45 rfl ?_
        refine j_iload_n dX5_cheats_46 rfl rfl ?_
        refine j_ishl dX5_cheats_47 ?_
        refine j_ior dX5_cheats_48 ?_
        refine j_istore_n dX5_cheats_49 rfl (Nat.le_of_ble_eq_true rfl) rfl ?_
        first | refine j_iincN dX5_cheats_50 rfl (Nat.le_of_ble_eq_true rfl) rfl ?_ | refine j_iinc _ dX5_cheats_50 rfl rfl (Nat.le_of_ble_eq_true rfl) rfl ?_
        refine j_goto 14 dX5_cheats_53 (by decide) ?_
        have ih2 := ih (i + 1) (by omega) (by omega)
        first | (rw [e1, if_pos b41] at ih2; exact ih2) | (rw [e1, if_neg b41] at ih2; exact ih2)
theorem x_walk_bad (X : XR σ lf fd rl rn ri tp rd dd d df nx kp da di tr bo ne) (a b : Int32) (h : ¬ npI a (sN d) = 0 ∨ ¬ npI b (sN d) = 0 ∨ b < a) : Ct G yX5_walk cX5_walk 6 (some .int) 5 0 0 z σ [.ref 0, .int a, .int b] (some (.int (-1000001))) z σ := by
  refine Ct.ofJ RX5 rfl [some (.ref 0), some (.int a), some (.int b), none, none, none] rfl (by decide) (by simp [Value.category]) ?_
  refine j_aload_n dX5_walk_0 rfl rfl ?_
  refine j_iload_n dX5_walk_1 rfl rfl ?_
  refine j_callV (c_isNoPerson X a) dX5_walk_2 rfl mv_X5_155 (by first | exact X.1 | exact X.2.1 | exact X.2.2.2.1 | exact X.2.2.2.2.1 | exact X.2.2.2.2.2.2.1.o | exact X.2.2.2.2.2.2.1.c | exact X.2.2.2.2.2.2.1.i | exact X.2.2.2.2.2.2.1.p | exact X.2.2.2.2.2.2.1.d | exact X.2.2.2.2.2.2.2.1.o | exact X.2.2.2.2.2.2.2.2.1 | exact X.2.2.2.2.2.2.2.2.2.1 | exact X.2.2.2.2.2.2.2.2.2.2.2.1 | exact X.2.2.2.2.2.2.2.2.2.2.2.2.2.1 | exact X.2.2.2.2.2.2.2.2.2.2.2.2.2.2.1 | exact X.2.2.2.2.2.2.2.2.2.2.2.2.2.2.2) rfl ⟨(Nat.le_of_ble_eq_true rfl), (Nat.le_of_ble_eq_true rfl)⟩ ⟨(Nat.le_of_ble_eq_true rfl), (Nat.le_of_ble_eq_true rfl)⟩ (Nat.le_of_ble_eq_true rfl) ?_
  refine j_if_ne 21 dX5_walk_5 (by decide) (fun b5 => ?_) (fun b5 => ?_)
  · refine j_ldc (-1000001) dX5_walk_21 kc_X5_59 ?_
    exact j_iret rfl dX5_walk_23 rfl rfl (Nat.le_of_ble_eq_true rfl) (Nat.le_of_ble_eq_true rfl)
  · refine j_aload_n dX5_walk_8 rfl rfl ?_
    refine j_iload_n dX5_walk_9 rfl rfl ?_
    refine j_callV (c_isNoPerson X b) dX5_walk_10 rfl mv_X5_155 (by first | exact X.1 | exact X.2.1 | exact X.2.2.2.1 | exact X.2.2.2.2.1 | exact X.2.2.2.2.2.2.1.o | exact X.2.2.2.2.2.2.1.c | exact X.2.2.2.2.2.2.1.i | exact X.2.2.2.2.2.2.1.p | exact X.2.2.2.2.2.2.1.d | exact X.2.2.2.2.2.2.2.1.o | exact X.2.2.2.2.2.2.2.2.1 | exact X.2.2.2.2.2.2.2.2.2.1 | exact X.2.2.2.2.2.2.2.2.2.2.2.1 | exact X.2.2.2.2.2.2.2.2.2.2.2.2.2.1 | exact X.2.2.2.2.2.2.2.2.2.2.2.2.2.2.1 | exact X.2.2.2.2.2.2.2.2.2.2.2.2.2.2.2) rfl ⟨(Nat.le_of_ble_eq_true rfl), (Nat.le_of_ble_eq_true rfl)⟩ ⟨(Nat.le_of_ble_eq_true rfl), (Nat.le_of_ble_eq_true rfl)⟩ (Nat.le_of_ble_eq_true rfl) ?_
    refine j_if_ne 21 dX5_walk_13 (by decide) (fun b13 => ?_) (fun b13 => ?_)
    · refine j_ldc (-1000001) dX5_walk_21 kc_X5_59 ?_
      exact j_iret rfl dX5_walk_23 rfl rfl (Nat.le_of_ble_eq_true rfl) (Nat.le_of_ble_eq_true rfl)
    · refine j_iload_n dX5_walk_16 rfl rfl ?_
      refine j_iload_n dX5_walk_17 rfl rfl ?_
      refine j_icmp_le 24 dX5_walk_18 (by decide) (fun b18 => ?_) (fun b18 => ?_)
      · exfalso
        rcases h with h | h | h
        · exact h b5
        · exact h b13
        · exact absurd b18 (Int32.not_le.mpr h)
      · refine j_ldc (-1000001) dX5_walk_21 kc_X5_59 ?_
        exact j_iret rfl dX5_walk_23 rfl rfl (Nat.le_of_ble_eq_true rfl) (Nat.le_of_ble_eq_true rfl)
theorem x_walk_ok (X : XR σ lf fd rl rn ri tp rd dd d df nx kp da di tr bo ne) {p q : Nat} (hN : sN d ≤ 7) (hpq : p ≤ q) (hq : q < sN d) (hu : 1 ≤ sU d) (hu2 : sU d ≤ 20) : Ct G yX5_walk cX5_walk 6 (some .int) 5 0 0 z σ [.ref 0, .int (nI p), .int (nI q)] (some (.int (wlk (sP d) (sD d) (sH d) (sN d) (sU d) p (q + 1 - p)).1)) z σ := by
  refine Ct.ofJ RX5 rfl [some (.ref 0), some (.int (nI p)), some (.int (nI q)), none, none, none] rfl (by decide) (by simp [Value.category]) ?_
  refine j_aload_n dX5_walk_0 rfl rfl ?_
  refine j_iload_n dX5_walk_1 rfl rfl ?_
  refine j_callV (c_isNoPerson X (nI p)) dX5_walk_2 rfl mv_X5_155 (by first | exact X.1 | exact X.2.1 | exact X.2.2.2.1 | exact X.2.2.2.2.1 | exact X.2.2.2.2.2.2.1.o | exact X.2.2.2.2.2.2.1.c | exact X.2.2.2.2.2.2.1.i | exact X.2.2.2.2.2.2.1.p | exact X.2.2.2.2.2.2.1.d | exact X.2.2.2.2.2.2.2.1.o | exact X.2.2.2.2.2.2.2.2.1 | exact X.2.2.2.2.2.2.2.2.2.1 | exact X.2.2.2.2.2.2.2.2.2.2.2.1 | exact X.2.2.2.2.2.2.2.2.2.2.2.2.2.1 | exact X.2.2.2.2.2.2.2.2.2.2.2.2.2.2.1 | exact X.2.2.2.2.2.2.2.2.2.2.2.2.2.2.2) rfl ⟨(Nat.le_of_ble_eq_true rfl), (Nat.le_of_ble_eq_true rfl)⟩ ⟨(Nat.le_of_ble_eq_true rfl), (Nat.le_of_ble_eq_true rfl)⟩ (Nat.le_of_ble_eq_true rfl) ?_
  refine j_top (nI 0) (npI_k (by omega) hN) ?_
  refine j_if_ne 21 dX5_walk_5 (by decide) (fun h => absurd rfl h) (fun _ => ?_)
  refine j_aload_n dX5_walk_8 rfl rfl ?_
  refine j_iload_n dX5_walk_9 rfl rfl ?_
  refine j_callV (c_isNoPerson X (nI q)) dX5_walk_10 rfl mv_X5_155 (by first | exact X.1 | exact X.2.1 | exact X.2.2.2.1 | exact X.2.2.2.2.1 | exact X.2.2.2.2.2.2.1.o | exact X.2.2.2.2.2.2.1.c | exact X.2.2.2.2.2.2.1.i | exact X.2.2.2.2.2.2.1.p | exact X.2.2.2.2.2.2.1.d | exact X.2.2.2.2.2.2.2.1.o | exact X.2.2.2.2.2.2.2.2.1 | exact X.2.2.2.2.2.2.2.2.2.1 | exact X.2.2.2.2.2.2.2.2.2.2.2.1 | exact X.2.2.2.2.2.2.2.2.2.2.2.2.2.1 | exact X.2.2.2.2.2.2.2.2.2.2.2.2.2.2.1 | exact X.2.2.2.2.2.2.2.2.2.2.2.2.2.2.2) rfl ⟨(Nat.le_of_ble_eq_true rfl), (Nat.le_of_ble_eq_true rfl)⟩ ⟨(Nat.le_of_ble_eq_true rfl), (Nat.le_of_ble_eq_true rfl)⟩ (Nat.le_of_ble_eq_true rfl) ?_
  refine j_top (nI 0) (npI_k hq hN) ?_
  refine j_if_ne 21 dX5_walk_13 (by decide) (fun h => absurd rfl h) (fun _ => ?_)
  refine j_iload_n dX5_walk_16 rfl rfl ?_
  refine j_iload_n dX5_walk_17 rfl rfl ?_
  refine j_icmp_leN 24 dX5_walk_18 (by decide) (by omega) (by omega) (fun b18 => ?_) (fun b18 => by exfalso; omega)
  refine j_ldc (-1000000) dX5_walk_24 kc_X5_220 ?_
  refine j_istore_n dX5_walk_26 rfl (Nat.le_of_ble_eq_true rfl) rfl ?_
  refine j_bipush (nI 10) dX5_walk_27 rfl ?_
  refine j_istore dX5_walk_29 (Nat.le_of_ble_eq_true rfl) rfl ?_
  refine j_iload_n dX5_walk_31 rfl rfl ?_
  refine j_istore dX5_walk_32 (Nat.le_of_ble_eq_true rfl) rfl ?_
  skip
  suffices H : ∀ (ki i : Nat), i ≤ (q+1-p) → (q+1-p) < i + ki → J G RX5 cX5_walk 6 (some .int) (TQ G 5 0 0 (some (.int (wlk (sP d) (sD d) (sH d) (sN d) (sU d) p (q + 1 - p)).1)) z σ) z σ 0 0 34 [some (.ref 0), some (.int (nI p)), some (.int (nI q)), some (.int (wlk (sP d) (sD d) (sH d) (sN d) (sU d) p i).1), some (.int (wlk (sP d) (sD d) (sH d) (sN d) (sU d) p i).2), some (.int (nI (p + i)))] [] from H ((q+1-p) + 1) 0 (by omega) (by omega)
  intro ki
  induction ki with
  | zero => intro i h1i h2i; exact absurd h2i (by omega)
  | succ ki ih =>
    intro i h1i h2i
    have e1 : wlk (sP d) (sD d) (sH d) (sN d) (sU d) p (i + 1) = if bitI (sH d) (nI (p + i)) = 0 ∧ lks (sP d) (sD d) (sN d) (sU d) (p + i) < (wlk (sP d) (sD d) (sH d) (sN d) (sU d) p i).2 then (nI (p + i), lks (sP d) (sD d) (sN d) (sU d) (p + i)) else wlk (sP d) (sD d) (sH d) (sN d) (sU d) p i := rfl
    refine j_iload dX5_walk_34 rfl ?_
    refine j_iload_n dX5_walk_36 rfl rfl ?_
    refine j_icmp_gtN 89 dX5_walk_37 (by decide) (by omega) (by omega) (fun b37 => ?_) (fun b37 => ?_)
    · obtain rfl : i = q + 1 - p := by omega
      refine j_iload_n dX5_walk_89 rfl rfl ?_
      exact j_iret rfl dX5_walk_90 rfl rfl (Nat.le_of_ble_eq_true rfl) (Nat.le_of_ble_eq_true rfl)
    · refine j_aload_n dX5_walk_40 rfl rfl ?_
      refine j_getf dX5_walk_41 5 4 rfl (Nat.le_of_ble_eq_true rfl) fl_X5_26 in_5 (by first | exact X.1 | exact X.2.1 | exact X.2.2.2.1 | exact X.2.2.2.2.1 | exact X.2.2.2.2.2.2.1.o | exact X.2.2.2.2.2.2.1.c | exact X.2.2.2.2.2.2.1.i | exact X.2.2.2.2.2.2.1.p | exact X.2.2.2.2.2.2.1.d | exact X.2.2.2.2.2.2.2.1.o | exact X.2.2.2.2.2.2.2.2.1 | exact X.2.2.2.2.2.2.2.2.2.1 | exact X.2.2.2.2.2.2.2.2.2.2.2.1 | exact X.2.2.2.2.2.2.2.2.2.2.2.2.2.1 | exact X.2.2.2.2.2.2.2.2.2.2.2.2.2.2.1 | exact X.2.2.2.2.2.2.2.2.2.2.2.2.2.2.2) rfl ?_
      refine j_getf dX5_walk_44 4 8 rfl (Nat.le_of_ble_eq_true rfl) fl_X5_164 in_4 (by first | exact X.1 | exact X.2.1 | exact X.2.2.2.1 | exact X.2.2.2.2.1 | exact X.2.2.2.2.2.2.1.o | exact X.2.2.2.2.2.2.1.c | exact X.2.2.2.2.2.2.1.i | exact X.2.2.2.2.2.2.1.p | exact X.2.2.2.2.2.2.1.d | exact X.2.2.2.2.2.2.2.1.o | exact X.2.2.2.2.2.2.2.2.1 | exact X.2.2.2.2.2.2.2.2.2.1 | exact X.2.2.2.2.2.2.2.2.2.2.2.1 | exact X.2.2.2.2.2.2.2.2.2.2.2.2.2.1 | exact X.2.2.2.2.2.2.2.2.2.2.2.2.2.2.1 | exact X.2.2.2.2.2.2.2.2.2.2.2.2.2.2.2) rfl ?_
      refine j_iload dX5_walk_47 rfl ?_
      refine j_callS (c_bitOf G z _ (sH d) (nI (p + i))) dX5_walk_49 rfl ms_X5_167 ⟨(Nat.le_of_ble_eq_true rfl), (Nat.le_of_ble_eq_true rfl)⟩ ⟨(Nat.le_of_ble_eq_true rfl), (Nat.le_of_ble_eq_true rfl)⟩ (Nat.le_of_ble_eq_true rfl) ?_
      refine j_if_ne 83 dX5_walk_52 (by decide) (fun b52 => ?_) (fun b52 => ?_)
      · first | refine j_iincN dX5_walk_83 rfl (Nat.le_of_ble_eq_true rfl) rfl ?_ | refine j_iinc _ dX5_walk_83 rfl rfl (Nat.le_of_ble_eq_true rfl) rfl ?_
        refine j_goto 34 dX5_walk_86 (by decide) ?_
        have ih2 := ih (i + 1) (by omega) (by omega)
        first | (rw [e1, if_neg (fun w => b52 w.1)] at ih2; exact ih2) | (rw [e1, if_neg (fun w => absurd w.2 (Int32.not_lt.mpr b66))] at ih2; exact ih2) | (rw [e1, if_pos ⟨b52, Int32.not_le.mp b66⟩] at ih2; exact ih2)
      · refine j_aload_n dX5_walk_55 rfl rfl ?_
        refine j_getf dX5_walk_56 5 4 rfl (Nat.le_of_ble_eq_true rfl) fl_X5_26 in_5 (by first | exact X.1 | exact X.2.1 | exact X.2.2.2.1 | exact X.2.2.2.2.1 | exact X.2.2.2.2.2.2.1.o | exact X.2.2.2.2.2.2.1.c | exact X.2.2.2.2.2.2.1.i | exact X.2.2.2.2.2.2.1.p | exact X.2.2.2.2.2.2.1.d | exact X.2.2.2.2.2.2.2.1.o | exact X.2.2.2.2.2.2.2.2.1 | exact X.2.2.2.2.2.2.2.2.2.1 | exact X.2.2.2.2.2.2.2.2.2.2.2.1 | exact X.2.2.2.2.2.2.2.2.2.2.2.2.2.1 | exact X.2.2.2.2.2.2.2.2.2.2.2.2.2.2.1 | exact X.2.2.2.2.2.2.2.2.2.2.2.2.2.2.2) rfl ?_
        refine j_iload dX5_walk_59 rfl ?_
        refine j_callV (c_looksOfS X.2.2.2.2.2.2.1 hN (by omega) hu hu2) dX5_walk_61 rfl mv_X5_158 (by first | exact X.1 | exact X.2.1 | exact X.2.2.2.1 | exact X.2.2.2.2.1 | exact X.2.2.2.2.2.2.1.o | exact X.2.2.2.2.2.2.1.c | exact X.2.2.2.2.2.2.1.i | exact X.2.2.2.2.2.2.1.p | exact X.2.2.2.2.2.2.1.d | exact X.2.2.2.2.2.2.2.1.o | exact X.2.2.2.2.2.2.2.2.1 | exact X.2.2.2.2.2.2.2.2.2.1 | exact X.2.2.2.2.2.2.2.2.2.2.2.1 | exact X.2.2.2.2.2.2.2.2.2.2.2.2.2.1 | exact X.2.2.2.2.2.2.2.2.2.2.2.2.2.2.1 | exact X.2.2.2.2.2.2.2.2.2.2.2.2.2.2.2) rfl ⟨(Nat.le_of_ble_eq_true rfl), (Nat.le_of_ble_eq_true rfl)⟩ ⟨(Nat.le_of_ble_eq_true rfl), (Nat.le_of_ble_eq_true rfl)⟩ (Nat.le_of_ble_eq_true rfl) ?_
        refine j_iload dX5_walk_64 rfl ?_
        refine j_icmp_ge 83 dX5_walk_66 (by decide) (fun b66 => ?_) (fun b66 => ?_)
        · first | refine j_iincN dX5_walk_83 rfl (Nat.le_of_ble_eq_true rfl) rfl ?_ | refine j_iinc _ dX5_walk_83 rfl rfl (Nat.le_of_ble_eq_true rfl) rfl ?_
          refine j_goto 34 dX5_walk_86 (by decide) ?_
          have ih2 := ih (i + 1) (by omega) (by omega)
          first | (rw [e1, if_neg (fun w => b52 w.1)] at ih2; exact ih2) | (rw [e1, if_neg (fun w => absurd w.2 (Int32.not_lt.mpr b66))] at ih2; exact ih2) | (rw [e1, if_pos ⟨b52, Int32.not_le.mp b66⟩] at ih2; exact ih2)
        · refine j_aload_n dX5_walk_69 rfl rfl ?_
          refine j_getf dX5_walk_70 5 4 rfl (Nat.le_of_ble_eq_true rfl) fl_X5_26 in_5 (by first | exact X.1 | exact X.2.1 | exact X.2.2.2.1 | exact X.2.2.2.2.1 | exact X.2.2.2.2.2.2.1.o | exact X.2.2.2.2.2.2.1.c | exact X.2.2.2.2.2.2.1.i | exact X.2.2.2.2.2.2.1.p | exact X.2.2.2.2.2.2.1.d | exact X.2.2.2.2.2.2.2.1.o | exact X.2.2.2.2.2.2.2.2.1 | exact X.2.2.2.2.2.2.2.2.2.1 | exact X.2.2.2.2.2.2.2.2.2.2.2.1 | exact X.2.2.2.2.2.2.2.2.2.2.2.2.2.1 | exact X.2.2.2.2.2.2.2.2.2.2.2.2.2.2.1 | exact X.2.2.2.2.2.2.2.2.2.2.2.2.2.2.2) rfl ?_
          refine j_iload dX5_walk_73 rfl ?_
          refine j_callV (c_looksOfS X.2.2.2.2.2.2.1 hN (by omega) hu hu2) dX5_walk_75 rfl mv_X5_158 (by first | exact X.1 | exact X.2.1 | exact X.2.2.2.1 | exact X.2.2.2.2.1 | exact X.2.2.2.2.2.2.1.o | exact X.2.2.2.2.2.2.1.c | exact X.2.2.2.2.2.2.1.i | exact X.2.2.2.2.2.2.1.p | exact X.2.2.2.2.2.2.1.d | exact X.2.2.2.2.2.2.2.1.o | exact X.2.2.2.2.2.2.2.2.1 | exact X.2.2.2.2.2.2.2.2.2.1 | exact X.2.2.2.2.2.2.2.2.2.2.2.1 | exact X.2.2.2.2.2.2.2.2.2.2.2.2.2.1 | exact X.2.2.2.2.2.2.2.2.2.2.2.2.2.2.1 | exact X.2.2.2.2.2.2.2.2.2.2.2.2.2.2.2) rfl ⟨(Nat.le_of_ble_eq_true rfl), (Nat.le_of_ble_eq_true rfl)⟩ ⟨(Nat.le_of_ble_eq_true rfl), (Nat.le_of_ble_eq_true rfl)⟩ (Nat.le_of_ble_eq_true rfl) ?_
          refine j_istore dX5_walk_78 (Nat.le_of_ble_eq_true rfl) rfl ?_
          refine j_iload dX5_walk_80 rfl ?_
          refine j_istore_n dX5_walk_82 rfl (Nat.le_of_ble_eq_true rfl) rfl ?_
          first | refine j_iincN dX5_walk_83 rfl (Nat.le_of_ble_eq_true rfl) rfl ?_ | refine j_iinc _ dX5_walk_83 rfl rfl (Nat.le_of_ble_eq_true rfl) rfl ?_
          refine j_goto 34 dX5_walk_86 (by decide) ?_
          have ih2 := ih (i + 1) (by omega) (by omega)
          first | (rw [e1, if_neg (fun w => b52 w.1)] at ih2; exact ih2) | (rw [e1, if_neg (fun w => absurd w.2 (Int32.not_lt.mpr b66))] at ih2; exact ih2) | (rw [e1, if_pos ⟨b52, Int32.not_le.mp b66⟩] at ih2; exact ih2)
end O4

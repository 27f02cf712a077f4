section O6
variable {G : GG} {z : Nat} {σ : AH} {lf fd : Int32} {rl rn : Nat → Int32} {ri : Nat → Nat → Int32} {tp rd : Nat → Int32} {dd d df : TS} {nx kp : Nat} {da di : Nat → TS} {tr : Nat} {bo ne : Nat → Int32}
theorem x_clear_state (X : XR σ lf fd rl rn ri tp rd dd d df nx kp da di tr bo ne) (c : Int32) (h : sN d = 0) : Ct G yX5_clear cX5_clear 5 (some .int) 5 0 0 z σ [.ref 0, .int c] (some (.int (-1000002))) z σ := by
  refine Ct.ofJ RX5 rfl [some (.ref 0), some (.int c), none, none, none] rfl (by decide) (by simp [Value.category]) ?_
  refine j_aload_n dX5_clear_0 rfl rfl ?_
  refine j_callV (c_isNoTown X) dX5_clear_1 rfl mv_X5_170 (by first | exact X.1 | exact X.2.1 | exact X.2.2.2.1 | exact X.2.2.2.2.1 | exact X.2.2.2.2.2.2.1.o | exact X.2.2.2.2.2.2.1.c | exact X.2.2.2.2.2.2.1.i | exact X.2.2.2.2.2.2.1.p | exact X.2.2.2.2.2.2.1.d | exact X.2.2.2.2.2.2.2.1.o | exact X.2.2.2.2.2.2.2.2.1 | exact X.2.2.2.2.2.2.2.2.2.1 | exact X.2.2.2.2.2.2.2.2.2.2.2.1 | exact X.2.2.2.2.2.2.2.2.2.2.2.2.2.1 | exact X.2.2.2.2.2.2.2.2.2.2.2.2.2.2.1 | exact X.2.2.2.2.2.2.2.2.2.2.2.2.2.2.2) rfl ⟨(Nat.le_of_ble_eq_true rfl), (Nat.le_of_ble_eq_true rfl)⟩ ⟨(Nat.le_of_ble_eq_true rfl), (Nat.le_of_ble_eq_true rfl)⟩ (Nat.le_of_ble_eq_true rfl) ?_
  refine j_top (nI 1) (by rw [h]; rfl) ?_
  refine j_if_eq 10 dX5_clear_4 (by decide) (fun h => absurd h (by decide)) (fun _ => ?_)
  refine j_ldc (-1000002) dX5_clear_7 kc_X5_140 ?_
  exact j_iret rfl dX5_clear_9 rfl rfl (Nat.le_of_ble_eq_true rfl) (Nat.le_of_ble_eq_true rfl)
theorem x_clear_bad (X : XR σ lf fd rl rn ri tp rd dd d df nx kp da di tr bo ne) (c : Int32) (hN : sN d ≤ 7) (h0 : 1 ≤ sN d) (h : c < 0 ∨ 999999 < c) : Ct G yX5_clear cX5_clear 5 (some .int) 5 0 0 z σ [.ref 0, .int c] (some (.int (-1000001))) z σ := by
  refine Ct.ofJ RX5 rfl [some (.ref 0), some (.int c), none, none, none] rfl (by decide) (by simp [Value.category]) ?_
  refine j_aload_n dX5_clear_0 rfl rfl ?_
  refine j_callV (c_isNoTown X) dX5_clear_1 rfl mv_X5_170 (by first | exact X.1 | exact X.2.1 | exact X.2.2.2.1 | exact X.2.2.2.2.1 | exact X.2.2.2.2.2.2.1.o | exact X.2.2.2.2.2.2.1.c | exact X.2.2.2.2.2.2.1.i | exact X.2.2.2.2.2.2.1.p | exact X.2.2.2.2.2.2.1.d | exact X.2.2.2.2.2.2.2.1.o | exact X.2.2.2.2.2.2.2.2.1 | exact X.2.2.2.2.2.2.2.2.2.1 | exact X.2.2.2.2.2.2.2.2.2.2.2.1 | exact X.2.2.2.2.2.2.2.2.2.2.2.2.2.1 | exact X.2.2.2.2.2.2.2.2.2.2.2.2.2.2.1 | exact X.2.2.2.2.2.2.2.2.2.2.2.2.2.2.2) rfl ⟨(Nat.le_of_ble_eq_true rfl), (Nat.le_of_ble_eq_true rfl)⟩ ⟨(Nat.le_of_ble_eq_true rfl), (Nat.le_of_ble_eq_true rfl)⟩ (Nat.le_of_ble_eq_true rfl) ?_
  refine j_top (nI 0) (ntI_k h0 hN) ?_
  refine j_if_eq 10 dX5_clear_4 (by decide) (fun _ => ?_) (fun h => absurd rfl h)
  refine j_iload_n dX5_clear_10 rfl rfl ?_
  refine j_if_lt 20 dX5_clear_11 (by decide) (fun b11 => ?_) (fun b11 => ?_)
  · refine j_ldc (-1000001) dX5_clear_20 kc_X5_59 ?_
    exact j_iret rfl dX5_clear_22 rfl rfl (Nat.le_of_ble_eq_true rfl) (Nat.le_of_ble_eq_true rfl)
  · refine j_iload_n dX5_clear_14 rfl rfl ?_
    refine j_ldc (999999) dX5_clear_15 kc_X5_173 ?_
    refine j_icmp_le 23 dX5_clear_17 (by decide) (fun b17 => ?_) (fun b17 => ?_)
    · exact absurd h (fun q => q.elim b11 (fun w => absurd b17 (Int32.not_le.mpr w)))
    · refine j_ldc (-1000001) dX5_clear_20 kc_X5_59 ?_
      exact j_iret rfl dX5_clear_22 rfl rfl (Nat.le_of_ble_eq_true rfl) (Nat.le_of_ble_eq_true rfl)
theorem x_clear_ok (X : XR σ lf fd rl rn ri tp rd dd d df nx kp da di tr bo ne) (c : Int32) (hN : sN d ≤ 7) (h0 : 1 ≤ sN d) (hu : 1 ≤ sU d) (hu2 : sU d ≤ 20) (h1 : ¬ c < 0) (h2 : c ≤ 999999) : Ct G yX5_clear cX5_clear 5 (some .int) 5 0 0 z σ [.ref 0, .int c] (some (.int (nI (fstN (fun k => decide (lft c (gat (sD d) (sN d) (sU d) ne (sN d)).1 k < (gat (sD d) (sN d) (sU d) ne (sN d)).1 k)) (gat (sD d) (sN d) (sU d) ne (sN d)).2 0)))) z (ups σ 170 (.inl (0, 7, (gat (sD d) (sN d) (sU d) ne (sN d)).1))) := by
  refine Ct.ofJ RX5 rfl [some (.ref 0), some (.int c), none, none, none] rfl (by decide) (by simp [Value.category]) ?_
  have hle := gat_le (sD d) (sN d) (sU d) ne (sN d)
  refine j_aload_n dX5_clear_0 rfl rfl ?_
  refine j_callV (c_isNoTown X) dX5_clear_1 rfl mv_X5_170 (by first | exact X.1 | exact X.2.1 | exact X.2.2.2.1 | exact X.2.2.2.2.1 | exact X.2.2.2.2.2.2.1.o | exact X.2.2.2.2.2.2.1.c | exact X.2.2.2.2.2.2.1.i | exact X.2.2.2.2.2.2.1.p | exact X.2.2.2.2.2.2.1.d | exact X.2.2.2.2.2.2.2.1.o | exact X.2.2.2.2.2.2.2.2.1 | exact X.2.2.2.2.2.2.2.2.2.1 | exact X.2.2.2.2.2.2.2.2.2.2.2.1 | exact X.2.2.2.2.2.2.2.2.2.2.2.2.2.1 | exact X.2.2.2.2.2.2.2.2.2.2.2.2.2.2.1 | exact X.2.2.2.2.2.2.2.2.2.2.2.2.2.2.2) rfl ⟨(Nat.le_of_ble_eq_true rfl), (Nat.le_of_ble_eq_true rfl)⟩ ⟨(Nat.le_of_ble_eq_true rfl), (Nat.le_of_ble_eq_true rfl)⟩ (Nat.le_of_ble_eq_true rfl) ?_
  refine j_top (nI 0) (ntI_k h0 hN) ?_
  refine j_if_eq 10 dX5_clear_4 (by decide) (fun _ => ?_) (fun h => absurd rfl h)
  refine j_iload_n dX5_clear_10 rfl rfl ?_
  refine j_if_lt 20 dX5_clear_11 (by decide) (fun b11 => by exact absurd b11 h1) (fun b11 => ?_)
  refine j_iload_n dX5_clear_14 rfl rfl ?_
  refine j_ldc (999999) dX5_clear_15 kc_X5_173 ?_
  refine j_icmp_le 23 dX5_clear_17 (by decide) (fun b17 => ?_) (fun b17 => by exact absurd h2 b17)
  refine j_aload_n dX5_clear_23 rfl rfl ?_
  refine j_callV (c_gatherNeeds X hN hu hu2) dX5_clear_24 rfl mv_X5_217 (by first | exact X.1 | exact X.2.1 | exact X.2.2.2.1 | exact X.2.2.2.2.1 | exact X.2.2.2.2.2.2.1.o | exact X.2.2.2.2.2.2.1.c | exact X.2.2.2.2.2.2.1.i | exact X.2.2.2.2.2.2.1.p | exact X.2.2.2.2.2.2.1.d | exact X.2.2.2.2.2.2.2.1.o | exact X.2.2.2.2.2.2.2.2.1 | exact X.2.2.2.2.2.2.2.2.2.1 | exact X.2.2.2.2.2.2.2.2.2.2.2.1 | exact X.2.2.2.2.2.2.2.2.2.2.2.2.2.1 | exact X.2.2.2.2.2.2.2.2.2.2.2.2.2.2.1 | exact X.2.2.2.2.2.2.2.2.2.2.2.2.2.2.2) rfl ⟨(Nat.le_of_ble_eq_true rfl), (Nat.le_of_ble_eq_true rfl)⟩ ⟨(Nat.le_of_ble_eq_true rfl), (Nat.le_of_ble_eq_true rfl)⟩ (Nat.le_of_ble_eq_true rfl) ?_
  have X := X.need (gat (sD d) (sN d) (sU d) ne (sN d)).1
  refine j_istore_n dX5_clear_27 rfl (Nat.le_of_ble_eq_true rfl) rfl ?_
  refine j_iload_n dX5_clear_28 rfl rfl ?_
  refine j_istore_n dX5_clear_29 rfl (Nat.le_of_ble_eq_true rfl) rfl ?_
  refine j_iconst (nI 0) dX5_clear_30 rfl ?_
  refine j_istore dX5_clear_31 (Nat.le_of_ble_eq_true rfl) rfl ?_
  suffices H : ∀ (ki i : Nat), i ≤ (gat (sD d) (sN d) (sU d) ne (sN d)).2 → (gat (sD d) (sN d) (sU d) ne (sN d)).2 < i + ki → fstN (fun k => decide (lft c (gat (sD d) (sN d) (sU d) ne (sN d)).1 k < (gat (sD d) (sN d) (sU d) ne (sN d)).1 k)) (gat (sD d) (sN d) (sU d) ne (sN d)).2 0 = fstN (fun k => decide (lft c (gat (sD d) (sN d) (sU d) ne (sN d)).1 k < (gat (sD d) (sN d) (sU d) ne (sN d)).1 k)) ((gat (sD d) (sN d) (sU d) ne (sN d)).2 - i) i → J G RX5 cX5_clear 5 (some .int) (TQ G 5 0 0 (some (.int (nI (fstN (fun k => decide (lft c (gat (sD d) (sN d) (sU d) ne (sN d)).1 k < (gat (sD d) (sN d) (sU d) ne (sN d)).1 k)) (gat (sD d) (sN d) (sU d) ne (sN d)).2 0)))) z (ups σ 170 (.inl (0, 7, (gat (sD d) (sN d) (sU d) ne (sN d)).1)))) z (ups σ 170 (.inl (0, 7, (gat (sD d) (sN d) (sU d) ne (sN d)).1))) 0 0 33 [some (.ref 0), some (.int c), some (.int (nI (gat (sD d) (sN d) (sU d) ne (sN d)).2)), some (.int (lft c (gat (sD d) (sN d) (sU d) ne (sN d)).1 i)), some (.int (nI i))] [] from H ((gat (sD d) (sN d) (sU d) ne (sN d)).2 + 1) 0 (by omega) (by omega) rfl
  intro ki
  induction ki with
  | zero => intro i h1i h2i; exact absurd h2i (by omega)
  | succ ki ih =>
    intro i h1i h2i hf
    refine j_iload dX5_clear_33 rfl ?_
    refine j_iload_n dX5_clear_35 rfl rfl ?_
    refine j_icmp_geN 69 dX5_clear_36 (by decide) (by omega) (by omega) (fun b36 => ?_) (fun b36 => ?_)
    · rw [show (gat (sD d) (sN d) (sU d) ne (sN d)).2 - i = 0 by omega] at hf
      have hf2 : fstN _ (gat (sD d) (sN d) (sU d) ne (sN d)).2 0 = i := hf
      refine j_iload_n dX5_clear_69 rfl rfl ?_
      exact j_iret rfl dX5_clear_70 (by rw [hf2, show i = (gat (sD d) (sN d) (sU d) ne (sN d)).2 by omega]) rfl (Nat.le_of_ble_eq_true rfl) (Nat.le_of_ble_eq_true rfl)
    · refine j_aload_n dX5_clear_39 rfl rfl ?_
      refine j_getf dX5_clear_40 5 9 rfl (Nat.le_of_ble_eq_true rfl) fl_X5_51 in_5 (by first | exact X.1 | exact X.2.1 | exact X.2.2.2.1 | exact X.2.2.2.2.1 | exact X.2.2.2.2.2.2.1.o | exact X.2.2.2.2.2.2.1.c | exact X.2.2.2.2.2.2.1.i | exact X.2.2.2.2.2.2.1.p | exact X.2.2.2.2.2.2.1.d | exact X.2.2.2.2.2.2.2.1.o | exact X.2.2.2.2.2.2.2.2.1 | exact X.2.2.2.2.2.2.2.2.2.1 | exact X.2.2.2.2.2.2.2.2.2.2.2.1 | exact X.2.2.2.2.2.2.2.2.2.2.2.2.2.1 | exact X.2.2.2.2.2.2.2.2.2.2.2.2.2.2.1 | exact X.2.2.2.2.2.2.2.2.2.2.2.2.2.2.2) rfl ?_
      refine j_iload dX5_clear_43 rfl ?_
      refine j_iald dX5_clear_45 (by first | exact X.1 | exact X.2.1 | exact X.2.2.2.1 | exact X.2.2.2.2.1 | exact X.2.2.2.2.2.2.1.o | exact X.2.2.2.2.2.2.1.c | exact X.2.2.2.2.2.2.1.i | exact X.2.2.2.2.2.2.1.p | exact X.2.2.2.2.2.2.1.d | exact X.2.2.2.2.2.2.2.1.o | exact X.2.2.2.2.2.2.2.2.1 | exact X.2.2.2.2.2.2.2.2.2.1 | exact X.2.2.2.2.2.2.2.2.2.2.2.1 | exact X.2.2.2.2.2.2.2.2.2.2.2.2.2.1 | exact X.2.2.2.2.2.2.2.2.2.2.2.2.2.2.1 | exact X.2.2.2.2.2.2.2.2.2.2.2.2.2.2.2) rfl (by omega) (by decide) ?_
      refine j_iload_n dX5_clear_46 rfl rfl ?_
      refine j_icmp_le 53 dX5_clear_47 (by decide) (fun b47 => ?_) (fun b47 => ?_)
      · refine j_iload_n dX5_clear_53 rfl rfl ?_
        refine j_aload_n dX5_clear_54 rfl rfl ?_
        refine j_getf dX5_clear_55 5 9 rfl (Nat.le_of_ble_eq_true rfl) fl_X5_51 in_5 (by first | exact X.1 | exact X.2.1 | exact X.2.2.2.1 | exact X.2.2.2.2.1 | exact X.2.2.2.2.2.2.1.o | exact X.2.2.2.2.2.2.1.c | exact X.2.2.2.2.2.2.1.i | exact X.2.2.2.2.2.2.1.p | exact X.2.2.2.2.2.2.1.d | exact X.2.2.2.2.2.2.2.1.o | exact X.2.2.2.2.2.2.2.2.1 | exact X.2.2.2.2.2.2.2.2.2.1 | exact X.2.2.2.2.2.2.2.2.2.2.2.1 | exact X.2.2.2.2.2.2.2.2.2.2.2.2.2.1 | exact X.2.2.2.2.2.2.2.2.2.2.2.2.2.2.1 | exact X.2.2.2.2.2.2.2.2.2.2.2.2.2.2.2) rfl ?_
        refine j_iload dX5_clear_58 rfl ?_
        refine j_iald dX5_clear_60 (by first | exact X.1 | exact X.2.1 | exact X.2.2.2.1 | exact X.2.2.2.2.1 | exact X.2.2.2.2.2.2.1.o | exact X.2.2.2.2.2.2.1.c | exact X.2.2.2.2.2.2.1.i | exact X.2.2.2.2.2.2.1.p | exact X.2.2.2.2.2.2.1.d | exact X.2.2.2.2.2.2.2.1.o | exact X.2.2.2.2.2.2.2.2.1 | exact X.2.2.2.2.2.2.2.2.2.1 | exact X.2.2.2.2.2.2.2.2.2.2.2.1 | exact X.2.2.2.2.2.2.2.2.2.2.2.2.2.1 | exact X.2.2.2.2.2.2.2.2.2.2.2.2.2.2.1 | exact X.2.2.2.2.2.2.2.2.2.2.2.2.2.2.2) rfl (by omega) (by decide) ?_
        refine j_isub dX5_clear_61 ?_
        refine j_istore_n dX5_clear_62 rfl (Nat.le_of_ble_eq_true rfl) rfl ?_
        first | refine j_iincN dX5_clear_63 rfl (Nat.le_of_ble_eq_true rfl) rfl ?_ | refine j_iinc _ dX5_clear_63 rfl rfl (Nat.le_of_ble_eq_true rfl) rfl ?_
        refine j_goto 33 dX5_clear_66 (by decide) ?_
        refine ih (i + 1) (by omega) (by omega) ?_
        rw [hf, show (gat (sD d) (sN d) (sU d) ne (sN d)).2 - i = ((gat (sD d) (sN d) (sU d) ne (sN d)).2 - (i + 1)) + 1 by omega]
        rw [show fstN (fun k => decide (lft c (gat (sD d) (sN d) (sU d) ne (sN d)).1 k < (gat (sD d) (sN d) (sU d) ne (sN d)).1 k)) ((gat (sD d) (sN d) (sU d) ne (sN d)).2 - (i + 1) + 1) i = if (decide (lft c (gat (sD d) (sN d) (sU d) ne (sN d)).1 i < (gat (sD d) (sN d) (sU d) ne (sN d)).1 i)) = true then i else fstN (fun k => decide (lft c (gat (sD d) (sN d) (sU d) ne (sN d)).1 k < (gat (sD d) (sN d) (sU d) ne (sN d)).1 k)) ((gat (sD d) (sN d) (sU d) ne (sN d)).2 - (i + 1)) (i + 1) from rfl]
        rw [if_neg (by simpa using b47)]
      · refine j_iload dX5_clear_50 rfl ?_
        exact j_iret rfl dX5_clear_52 (by rw [hf]; obtain ⟨m, hm⟩ : ∃ m, (gat (sD d) (sN d) (sU d) ne (sN d)).2 - i = m + 1 := ⟨(gat (sD d) (sN d) (sU d) ne (sN d)).2 - i - 1, by omega⟩; rw [hm]; unfold fstN; rw [if_pos (decide_eq_true (Int32.not_le.mp b47))]) rfl (Nat.le_of_ble_eq_true rfl) (Nat.le_of_ble_eq_true rfl)
theorem x_coin_state (X : XR σ lf fd rl rn ri tp rd dd d df nx kp da di tr bo ne) (c : Int32) (h : sN d = 0) : Ct G yX5_coin cX5_coin 4 (some .int) 5 0 0 z σ [.ref 0, .int c] (some (.int (-1000002))) z σ := by
  refine Ct.ofJ RX5 rfl [some (.ref 0), some (.int c), none, none] rfl (by decide) (by simp [Value.category]) ?_
  refine j_aload_n dX5_coin_0 rfl rfl ?_
  refine j_callV (c_isNoTown X) dX5_coin_1 rfl mv_X5_170 (by first | exact X.1 | exact X.2.1 | exact X.2.2.2.1 | exact X.2.2.2.2.1 | exact X.2.2.2.2.2.2.1.o | exact X.2.2.2.2.2.2.1.c | exact X.2.2.2.2.2.2.1.i | exact X.2.2.2.2.2.2.1.p | exact X.2.2.2.2.2.2.1.d | exact X.2.2.2.2.2.2.2.1.o | exact X.2.2.2.2.2.2.2.2.1 | exact X.2.2.2.2.2.2.2.2.2.1 | exact X.2.2.2.2.2.2.2.2.2.2.2.1 | exact X.2.2.2.2.2.2.2.2.2.2.2.2.2.1 | exact X.2.2.2.2.2.2.2.2.2.2.2.2.2.2.1 | exact X.2.2.2.2.2.2.2.2.2.2.2.2.2.2.2) rfl ⟨(Nat.le_of_ble_eq_true rfl), (Nat.le_of_ble_eq_true rfl)⟩ ⟨(Nat.le_of_ble_eq_true rfl), (Nat.le_of_ble_eq_true rfl)⟩ (Nat.le_of_ble_eq_true rfl) ?_
  refine j_top (nI 1) (by rw [h]; rfl) ?_
  refine j_if_eq 10 dX5_coin_4 (by decide) (fun h => absurd h (by decide)) (fun _ => ?_)
  refine j_ldc (-1000002) dX5_coin_7 kc_X5_140 ?_
  exact j_iret rfl dX5_coin_9 rfl rfl (Nat.le_of_ble_eq_true rfl) (Nat.le_of_ble_eq_true rfl)
theorem x_coin_bad (X : XR σ lf fd rl rn ri tp rd dd d df nx kp da di tr bo ne) (c : Int32) (hN : sN d ≤ 7) (h0 : 1 ≤ sN d) (h : c < 0 ∨ nI 7 < c) : Ct G yX5_coin cX5_coin 4 (some .int) 5 0 0 z σ [.ref 0, .int c] (some (.int (-1000001))) z σ := by
  refine Ct.ofJ RX5 rfl [some (.ref 0), some (.int c), none, none] rfl (by decide) (by simp [Value.category]) ?_
  refine j_aload_n dX5_coin_0 rfl rfl ?_
  refine j_callV (c_isNoTown X) dX5_coin_1 rfl mv_X5_170 (by first | exact X.1 | exact X.2.1 | exact X.2.2.2.1 | exact X.2.2.2.2.1 | exact X.2.2.2.2.2.2.1.o | exact X.2.2.2.2.2.2.1.c | exact X.2.2.2.2.2.2.1.i | exact X.2.2.2.2.2.2.1.p | exact X.2.2.2.2.2.2.1.d | exact X.2.2.2.2.2.2.2.1.o | exact X.2.2.2.2.2.2.2.2.1 | exact X.2.2.2.2.2.2.2.2.2.1 | exact X.2.2.2.2.2.2.2.2.2.2.2.1 | exact X.2.2.2.2.2.2.2.2.2.2.2.2.2.1 | exact X.2.2.2.2.2.2.2.2.2.2.2.2.2.2.1 | exact X.2.2.2.2.2.2.2.2.2.2.2.2.2.2.2) rfl ⟨(Nat.le_of_ble_eq_true rfl), (Nat.le_of_ble_eq_true rfl)⟩ ⟨(Nat.le_of_ble_eq_true rfl), (Nat.le_of_ble_eq_true rfl)⟩ (Nat.le_of_ble_eq_true rfl) ?_
  refine j_top (nI 0) (ntI_k h0 hN) ?_
  refine j_if_eq 10 dX5_coin_4 (by decide) (fun _ => ?_) (fun h => absurd rfl h)
  refine j_iload_n dX5_coin_10 rfl rfl ?_
  refine j_if_lt 20 dX5_coin_11 (by decide) (fun b11 => ?_) (fun b11 => ?_)
  · refine j_ldc (-1000001) dX5_coin_20 kc_X5_59 ?_
    exact j_iret rfl dX5_coin_22 rfl rfl (Nat.le_of_ble_eq_true rfl) (Nat.le_of_ble_eq_true rfl)
  · refine j_iload_n dX5_coin_14 rfl rfl ?_
    refine j_bipush (nI 7) dX5_coin_15 rfl ?_
    refine j_icmp_le 23 dX5_coin_17 (by decide) (fun b17 => ?_) (fun b17 => ?_)
    · exact absurd h (fun q => q.elim b11 (fun w => absurd b17 (Int32.not_le.mpr w)))
    · refine j_ldc (-1000001) dX5_coin_20 kc_X5_59 ?_
      exact j_iret rfl dX5_coin_22 rfl rfl (Nat.le_of_ble_eq_true rfl) (Nat.le_of_ble_eq_true rfl)
theorem x_coin_none (X : XR σ lf fd rl rn ri tp rd dd d df nx kp da di tr bo ne) {k : Nat} (hN : sN d ≤ 7) (h0 : 1 ≤ sN d) (hu : 1 ≤ sU d) (hu2 : sU d ≤ 20) (hk : k ≤ 7) (h : (gat (sD d) (sN d) (sU d) ne (sN d)).2 < k) : Ct G yX5_coin cX5_coin 4 (some .int) 5 0 0 z σ [.ref 0, .int (nI k)] (some (.int (-1000000))) z (ups σ 170 (.inl (0, 7, (gat (sD d) (sN d) (sU d) ne (sN d)).1))) := by
  refine Ct.ofJ RX5 rfl [some (.ref 0), some (.int (nI k)), none, none] rfl (by decide) (by simp [Value.category]) ?_
  refine j_aload_n dX5_coin_0 rfl rfl ?_
  refine j_callV (c_isNoTown X) dX5_coin_1 rfl mv_X5_170 (by first | exact X.1 | exact X.2.1 | exact X.2.2.2.1 | exact X.2.2.2.2.1 | exact X.2.2.2.2.2.2.1.o | exact X.2.2.2.2.2.2.1.c | exact X.2.2.2.2.2.2.1.i | exact X.2.2.2.2.2.2.1.p | exact X.2.2.2.2.2.2.1.d | exact X.2.2.2.2.2.2.2.1.o | exact X.2.2.2.2.2.2.2.2.1 | exact X.2.2.2.2.2.2.2.2.2.1 | exact X.2.2.2.2.2.2.2.2.2.2.2.1 | exact X.2.2.2.2.2.2.2.2.2.2.2.2.2.1 | exact X.2.2.2.2.2.2.2.2.2.2.2.2.2.2.1 | exact X.2.2.2.2.2.2.2.2.2.2.2.2.2.2.2) rfl ⟨(Nat.le_of_ble_eq_true rfl), (Nat.le_of_ble_eq_true rfl)⟩ ⟨(Nat.le_of_ble_eq_true rfl), (Nat.le_of_ble_eq_true rfl)⟩ (Nat.le_of_ble_eq_true rfl) ?_
  refine j_top (nI 0) (ntI_k h0 hN) ?_
  refine j_if_eq 10 dX5_coin_4 (by decide) (fun _ => ?_) (fun h => absurd rfl h)
  refine j_iload_n dX5_coin_10 rfl rfl ?_
  refine j_if_lt 20 dX5_coin_11 (by decide) (fun b11 => by exact absurd b11 (nI_pos (by omega))) (fun b11 => ?_)
  refine j_iload_n dX5_coin_14 rfl rfl ?_
  refine j_bipush (nI 7) dX5_coin_15 rfl ?_
  refine j_icmp_leN 23 dX5_coin_17 (by decide) (by omega) (by omega) (fun b17 => ?_) (fun b17 => by exfalso; omega)
  refine j_iload_n dX5_coin_23 rfl rfl ?_
  refine j_aload_n dX5_coin_24 rfl rfl ?_
  refine j_callV (c_gatherNeeds X hN hu hu2) dX5_coin_25 rfl mv_X5_217 (by first | exact X.1 | exact X.2.1 | exact X.2.2.2.1 | exact X.2.2.2.2.1 | exact X.2.2.2.2.2.2.1.o | exact X.2.2.2.2.2.2.1.c | exact X.2.2.2.2.2.2.1.i | exact X.2.2.2.2.2.2.1.p | exact X.2.2.2.2.2.2.1.d | exact X.2.2.2.2.2.2.2.1.o | exact X.2.2.2.2.2.2.2.2.1 | exact X.2.2.2.2.2.2.2.2.2.1 | exact X.2.2.2.2.2.2.2.2.2.2.2.1 | exact X.2.2.2.2.2.2.2.2.2.2.2.2.2.1 | exact X.2.2.2.2.2.2.2.2.2.2.2.2.2.2.1 | exact X.2.2.2.2.2.2.2.2.2.2.2.2.2.2.2) rfl ⟨(Nat.le_of_ble_eq_true rfl), (Nat.le_of_ble_eq_true rfl)⟩ ⟨(Nat.le_of_ble_eq_true rfl), (Nat.le_of_ble_eq_true rfl)⟩ (Nat.le_of_ble_eq_true rfl) ?_
  refine j_icmp_leN 34 dX5_coin_28 (by decide) (by omega) (by omega) (fun b28 => by exfalso; omega) (fun b28 => ?_)
  refine j_ldc (-1000000) dX5_coin_31 kc_X5_220 ?_
  exact j_iret rfl dX5_coin_33 rfl rfl (Nat.le_of_ble_eq_true rfl) (Nat.le_of_ble_eq_true rfl)
theorem x_coin_ok (X : XR σ lf fd rl rn ri tp rd dd d df nx kp da di tr bo ne) {k : Nat} (hN : sN d ≤ 7) (h0 : 1 ≤ sN d) (hu : 1 ≤ sU d) (hu2 : sU d ≤ 20) (h : k ≤ (gat (sD d) (sN d) (sU d) ne (sN d)).2) : Ct G yX5_coin cX5_coin 4 (some .int) 5 0 0 z σ [.ref 0, .int (nI k)] (some (.int (sumR (gat (sD d) (sN d) (sU d) ne (sN d)).1 k))) z (ups σ 170 (.inl (0, 7, (gat (sD d) (sN d) (sU d) ne (sN d)).1))) := by
  refine Ct.ofJ RX5 rfl [some (.ref 0), some (.int (nI k)), none, none] rfl (by decide) (by simp [Value.category]) ?_
  have hle := gat_le (sD d) (sN d) (sU d) ne (sN d)
  refine j_aload_n dX5_coin_0 rfl rfl ?_
  refine j_callV (c_isNoTown X) dX5_coin_1 rfl mv_X5_170 (by first | exact X.1 | exact X.2.1 | exact X.2.2.2.1 | exact X.2.2.2.2.1 | exact X.2.2.2.2.2.2.1.o | exact X.2.2.2.2.2.2.1.c | exact X.2.2.2.2.2.2.1.i | exact X.2.2.2.2.2.2.1.p | exact X.2.2.2.2.2.2.1.d | exact X.2.2.2.2.2.2.2.1.o | exact X.2.2.2.2.2.2.2.2.1 | exact X.2.2.2.2.2.2.2.2.2.1 | exact X.2.2.2.2.2.2.2.2.2.2.2.1 | exact X.2.2.2.2.2.2.2.2.2.2.2.2.2.1 | exact X.2.2.2.2.2.2.2.2.2.2.2.2.2.2.1 | exact X.2.2.2.2.2.2.2.2.2.2.2.2.2.2.2) rfl ⟨(Nat.le_of_ble_eq_true rfl), (Nat.le_of_ble_eq_true rfl)⟩ ⟨(Nat.le_of_ble_eq_true rfl), (Nat.le_of_ble_eq_true rfl)⟩ (Nat.le_of_ble_eq_true rfl) ?_
  refine j_top (nI 0) (ntI_k h0 hN) ?_
  refine j_if_eq 10 dX5_coin_4 (by decide) (fun _ => ?_) (fun h => absurd rfl h)
  refine j_iload_n dX5_coin_10 rfl rfl ?_
  refine j_if_lt 20 dX5_coin_11 (by decide) (fun b11 => by exact absurd b11 (nI_pos (by omega))) (fun b11 => ?_)
  refine j_iload_n dX5_coin_14 rfl rfl ?_
  refine j_bipush (nI 7) dX5_coin_15 rfl ?_
  refine j_icmp_leN 23 dX5_coin_17 (by decide) (by omega) (by omega) (fun b17 => ?_) (fun b17 => by exfalso; omega)
  refine j_iload_n dX5_coin_23 rfl rfl ?_
  refine j_aload_n dX5_coin_24 rfl rfl ?_
  refine j_callV (c_gatherNeeds X hN hu hu2) dX5_coin_25 rfl mv_X5_217 (by first | exact X.1 | exact X.2.1 | exact X.2.2.2.1 | exact X.2.2.2.2.1 | exact X.2.2.2.2.2.2.1.o | exact X.2.2.2.2.2.2.1.c | exact X.2.2.2.2.2.2.1.i | exact X.2.2.2.2.2.2.1.p | exact X.2.2.2.2.2.2.1.d | exact X.2.2.2.2.2.2.2.1.o | exact X.2.2.2.2.2.2.2.2.1 | exact X.2.2.2.2.2.2.2.2.2.1 | exact X.2.2.2.2.2.2.2.2.2.2.2.1 | exact X.2.2.2.2.2.2.2.2.2.2.2.2.2.1 | exact X.2.2.2.2.2.2.2.2.2.2.2.2.2.2.1 | exact X.2.2.2.2.2.2.2.2.2.2.2.2.2.2.2) rfl ⟨(Nat.le_of_ble_eq_true rfl), (Nat.le_of_ble_eq_true rfl)⟩ ⟨(Nat.le_of_ble_eq_true rfl), (Nat.le_of_ble_eq_true rfl)⟩ (Nat.le_of_ble_eq_true rfl) ?_
  have X := X.need (gat (sD d) (sN d) (sU d) ne (sN d)).1
  refine j_icmp_leN 34 dX5_coin_28 (by decide) (by omega) (by omega) (fun b28 => ?_) (fun b28 => by exfalso; omega)
  refine j_iconst (nI 0) dX5_coin_34 rfl ?_
  refine j_istore_n dX5_coin_35 rfl (Nat.le_of_ble_eq_true rfl) rfl ?_
  refine j_iconst (nI 0) dX5_coin_36 rfl ?_
  refine j_istore_n dX5_coin_37 rfl (Nat.le_of_ble_eq_true rfl) rfl ?_
  skip
  suffices H : ∀ (ki i : Nat), i ≤ k → k < i + ki → J G RX5 cX5_coin 4 (some .int) (TQ G 5 0 0 (some (.int (sumR (gat (sD d) (sN d) (sU d) ne (sN d)).1 k))) z (ups σ 170 (.inl (0, 7, (gat (sD d) (sN d) (sU d) ne (sN d)).1)))) z (ups σ 170 (.inl (0, 7, (gat (sD d) (sN d) (sU d) ne (sN d)).1))) 0 0 38 [some (.ref 0), some (.int (nI k)), some (.int (sumR (gat (sD d) (sN d) (sU d) ne (sN d)).1 i)), some (.int (nI i))] [] from H (k + 1) 0 (by omega) (by omega)
  intro ki
  induction ki with
  | zero => intro i h1i h2i; exact absurd h2i (by omega)
  | succ ki ih =>
    intro i h1i h2i
    refine j_iload_n dX5_coin_38 rfl rfl ?_
    refine j_iload_n dX5_coin_39 rfl rfl ?_
    refine j_icmp_geN 58 dX5_coin_40 (by decide) (by omega) (by omega) (fun b40 => ?_) (fun b40 => ?_)
    · obtain rfl : i = k := by omega
      refine j_iload_n dX5_coin_58 rfl rfl ?_
      exact j_iret rfl dX5_coin_59 rfl rfl (Nat.le_of_ble_eq_true rfl) (Nat.le_of_ble_eq_true rfl)
    · refine j_iload_n dX5_coin_43 rfl rfl ?_
      refine j_aload_n dX5_coin_44 rfl rfl ?_
      refine j_getf dX5_coin_45 5 9 rfl (Nat.le_of_ble_eq_true rfl) fl_X5_51 in_5 (by first | exact X.1 | exact X.2.1 | exact X.2.2.2.1 | exact X.2.2.2.2.1 | exact X.2.2.2.2.2.2.1.o | exact X.2.2.2.2.2.2.1.c | exact X.2.2.2.2.2.2.1.i | exact X.2.2.2.2.2.2.1.p | exact X.2.2.2.2.2.2.1.d | exact X.2.2.2.2.2.2.2.1.o | exact X.2.2.2.2.2.2.2.2.1 | exact X.2.2.2.2.2.2.2.2.2.1 | exact X.2.2.2.2.2.2.2.2.2.2.2.1 | exact X.2.2.2.2.2.2.2.2.2.2.2.2.2.1 | exact X.2.2.2.2.2.2.2.2.2.2.2.2.2.2.1 | exact X.2.2.2.2.2.2.2.2.2.2.2.2.2.2.2) rfl ?_
      refine j_iload_n dX5_coin_48 rfl rfl ?_
      refine j_iald dX5_coin_49 (by first | exact X.1 | exact X.2.1 | exact X.2.2.2.1 | exact X.2.2.2.2.1 | exact X.2.2.2.2.2.2.1.o | exact X.2.2.2.2.2.2.1.c | exact X.2.2.2.2.2.2.1.i | exact X.2.2.2.2.2.2.1.p | exact X.2.2.2.2.2.2.1.d | exact X.2.2.2.2.2.2.2.1.o | exact X.2.2.2.2.2.2.2.2.1 | exact X.2.2.2.2.2.2.2.2.2.1 | exact X.2.2.2.2.2.2.2.2.2.2.2.1 | exact X.2.2.2.2.2.2.2.2.2.2.2.2.2.1 | exact X.2.2.2.2.2.2.2.2.2.2.2.2.2.2.1 | exact X.2.2.2.2.2.2.2.2.2.2.2.2.2.2.2) rfl (by omega) (by decide) ?_
      first | refine j_iaddN dX5_coin_50 ?_ | refine j_iadd dX5_coin_50 ?_
      refine j_istore_n dX5_coin_51 rfl (Nat.le_of_ble_eq_true rfl) rfl ?_
      first | refine j_iincN dX5_coin_52 rfl (Nat.le_of_ble_eq_true rfl) rfl ?_ | refine j_iinc _ dX5_coin_52 rfl rfl (Nat.le_of_ble_eq_true rfl) rfl ?_
      refine j_goto 38 dX5_coin_55 (by decide) ?_
      exact ih (i + 1) (by omega) (by omega)
theorem c_paler (X : XR σ lf fd rl rn ri tp rd dd d df nx kp da di tr bo ne) (hN : sN d ≤ 7) (hu : 1 ≤ sU d) (hu2 : sU d ≤ 20) (hf : sN df = sN d) (hfu : sU df = sU d) : Ct G yX5_peopleForetoldPaler cX5_peopleForetoldPaler 3 (some .int) 4 0 0 z σ [.ref 0] (some (.int (plI (sD d) (sD df) (sN d) (sU d) (sN d)))) z σ := by
  refine Ct.ofJ RX5 rfl [some (.ref 0), none, none] rfl (by decide) (by simp [Value.category]) ?_
  refine j_iconst (nI 0) dX5_peopleForetoldPaler_0 rfl ?_
  refine j_istore_n dX5_peopleForetoldPaler_1 rfl (Nat.le_of_ble_eq_true rfl) rfl ?_
  refine j_iconst (nI 0) dX5_peopleForetoldPaler_2 rfl ?_
  refine j_istore_n dX5_peopleForetoldPaler_3 rfl (Nat.le_of_ble_eq_true rfl) rfl ?_
  skip
  suffices H : ∀ (ki i : Nat), i ≤ (sN d) → (sN d) < i + ki → J G RX5 cX5_peopleForetoldPaler 3 (some .int) (TQ G 4 0 0 (some (.int (plI (sD d) (sD df) (sN d) (sU d) (sN d)))) z σ) z σ 0 0 4 [some (.ref 0), some (.int (plI (sD d) (sD df) (sN d) (sU d) i)), some (.int (nI i))] [] from H ((sN d) + 1) 0 (by omega) (by omega)
  intro ki
  induction ki with
  | zero => intro i h1i h2i; exact absurd h2i (by omega)
  | succ ki ih =>
    intro i h1i h2i
    have e1 : plI (sD d) (sD df) (sN d) (sU d) (i + 1) = if shd (sD d) (sN d) (sU d) i ≤ shd (sD df) (sN d) (sU d) i then plI (sD d) (sD df) (sN d) (sU d) i else orI (plI (sD d) (sD df) (sN d) (sU d) i) i := rfl
    have c1 := c_shadeOfS (G := G) (z := z) (p := i) X.2.2.2.2.2.2.2.1 (by omega)
    rw [hf, hfu] at c1
    refine j_iload_n dX5_peopleForetoldPaler_4 rfl rfl ?_
    refine j_aload_n dX5_peopleForetoldPaler_5 rfl rfl ?_
    refine j_getf dX5_peopleForetoldPaler_6 5 4 rfl (Nat.le_of_ble_eq_true rfl) fl_X5_26 in_5 (by first | exact X.1 | exact X.2.1 | exact X.2.2.2.1 | exact X.2.2.2.2.1 | exact X.2.2.2.2.2.2.1.o | exact X.2.2.2.2.2.2.1.c | exact X.2.2.2.2.2.2.1.i | exact X.2.2.2.2.2.2.1.p | exact X.2.2.2.2.2.2.1.d | exact X.2.2.2.2.2.2.2.1.o | exact X.2.2.2.2.2.2.2.2.1 | exact X.2.2.2.2.2.2.2.2.2.1 | exact X.2.2.2.2.2.2.2.2.2.2.2.1 | exact X.2.2.2.2.2.2.2.2.2.2.2.2.2.1 | exact X.2.2.2.2.2.2.2.2.2.2.2.2.2.2.1 | exact X.2.2.2.2.2.2.2.2.2.2.2.2.2.2.2) rfl ?_
    refine j_getf dX5_peopleForetoldPaler_9 4 4 rfl (Nat.le_of_ble_eq_true rfl) fl_X5_131 in_4 (by first | exact X.1 | exact X.2.1 | exact X.2.2.2.1 | exact X.2.2.2.2.1 | exact X.2.2.2.2.2.2.1.o | exact X.2.2.2.2.2.2.1.c | exact X.2.2.2.2.2.2.1.i | exact X.2.2.2.2.2.2.1.p | exact X.2.2.2.2.2.2.1.d | exact X.2.2.2.2.2.2.2.1.o | exact X.2.2.2.2.2.2.2.2.1 | exact X.2.2.2.2.2.2.2.2.2.1 | exact X.2.2.2.2.2.2.2.2.2.2.2.1 | exact X.2.2.2.2.2.2.2.2.2.2.2.2.2.1 | exact X.2.2.2.2.2.2.2.2.2.2.2.2.2.2.1 | exact X.2.2.2.2.2.2.2.2.2.2.2.2.2.2.2) rfl ?_
    refine j_icmp_geN 46 dX5_peopleForetoldPaler_12 (by decide) (by omega) (by omega) (fun b12 => ?_) (fun b12 => ?_)
    · obtain rfl : i = sN d := by omega
      refine j_iload_n dX5_peopleForetoldPaler_46 rfl rfl ?_
      exact j_iret rfl dX5_peopleForetoldPaler_47 rfl rfl (Nat.le_of_ble_eq_true rfl) (Nat.le_of_ble_eq_true rfl)
    · refine j_aload_n dX5_peopleForetoldPaler_15 rfl rfl ?_
      refine j_getf dX5_peopleForetoldPaler_16 5 5 rfl (Nat.le_of_ble_eq_true rfl) fl_X5_30 in_5 (by first | exact X.1 | exact X.2.1 | exact X.2.2.2.1 | exact X.2.2.2.2.1 | exact X.2.2.2.2.2.2.1.o | exact X.2.2.2.2.2.2.1.c | exact X.2.2.2.2.2.2.1.i | exact X.2.2.2.2.2.2.1.p | exact X.2.2.2.2.2.2.1.d | exact X.2.2.2.2.2.2.2.1.o | exact X.2.2.2.2.2.2.2.2.1 | exact X.2.2.2.2.2.2.2.2.2.1 | exact X.2.2.2.2.2.2.2.2.2.2.2.1 | exact X.2.2.2.2.2.2.2.2.2.2.2.2.2.1 | exact X.2.2.2.2.2.2.2.2.2.2.2.2.2.2.1 | exact X.2.2.2.2.2.2.2.2.2.2.2.2.2.2.2) rfl ?_
      refine j_iload_n dX5_peopleForetoldPaler_19 rfl rfl ?_
      refine j_callV (c1 (by omega) hu hu2) dX5_peopleForetoldPaler_20 rfl mv_X5_193 (by first | exact X.1 | exact X.2.1 | exact X.2.2.2.1 | exact X.2.2.2.2.1 | exact X.2.2.2.2.2.2.1.o | exact X.2.2.2.2.2.2.1.c | exact X.2.2.2.2.2.2.1.i | exact X.2.2.2.2.2.2.1.p | exact X.2.2.2.2.2.2.1.d | exact X.2.2.2.2.2.2.2.1.o | exact X.2.2.2.2.2.2.2.2.1 | exact X.2.2.2.2.2.2.2.2.2.1 | exact X.2.2.2.2.2.2.2.2.2.2.2.1 | exact X.2.2.2.2.2.2.2.2.2.2.2.2.2.1 | exact X.2.2.2.2.2.2.2.2.2.2.2.2.2.2.1 | exact X.2.2.2.2.2.2.2.2.2.2.2.2.2.2.2) rfl ⟨(Nat.le_of_ble_eq_true rfl), (Nat.le_of_ble_eq_true rfl)⟩ ⟨(Nat.le_of_ble_eq_true rfl), (Nat.le_of_ble_eq_true rfl)⟩ (Nat.le_of_ble_eq_true rfl) ?_
      refine j_aload_n dX5_peopleForetoldPaler_23 rfl rfl ?_
      refine j_getf dX5_peopleForetoldPaler_24 5 4 rfl (Nat.le_of_ble_eq_true rfl) fl_X5_26 in_5 (by first | exact X.1 | exact X.2.1 | exact X.2.2.2.1 | exact X.2.2.2.2.1 | exact X.2.2.2.2.2.2.1.o | exact X.2.2.2.2.2.2.1.c | exact X.2.2.2.2.2.2.1.i | exact X.2.2.2.2.2.2.1.p | exact X.2.2.2.2.2.2.1.d | exact X.2.2.2.2.2.2.2.1.o | exact X.2.2.2.2.2.2.2.2.1 | exact X.2.2.2.2.2.2.2.2.2.1 | exact X.2.2.2.2.2.2.2.2.2.2.2.1 | exact X.2.2.2.2.2.2.2.2.2.2.2.2.2.1 | exact X.2.2.2.2.2.2.2.2.2.2.2.2.2.2.1 | exact X.2.2.2.2.2.2.2.2.2.2.2.2.2.2.2) rfl ?_
      refine j_iload_n dX5_peopleForetoldPaler_27 rfl rfl ?_
      refine j_callV (c_shadeOfS X.2.2.2.2.2.2.1 hN (by omega) hu hu2) dX5_peopleForetoldPaler_28 rfl mv_X5_193 (by first | exact X.1 | exact X.2.1 | exact X.2.2.2.1 | exact X.2.2.2.2.1 | exact X.2.2.2.2.2.2.1.o | exact X.2.2.2.2.2.2.1.c | exact X.2.2.2.2.2.2.1.i | exact X.2.2.2.2.2.2.1.p | exact X.2.2.2.2.2.2.1.d | exact X.2.2.2.2.2.2.2.1.o | exact X.2.2.2.2.2.2.2.2.1 | exact X.2.2.2.2.2.2.2.2.2.1 | exact X.2.2.2.2.2.2.2.2.2.2.2.1 | exact X.2.2.2.2.2.2.2.2.2.2.2.2.2.1 | exact X.2.2.2.2.2.2.2.2.2.2.2.2.2.2.1 | exact X.2.2.2.2.2.2.2.2.2.2.2.2.2.2.2) rfl ⟨(Nat.le_of_ble_eq_true rfl), (Nat.le_of_ble_eq_true rfl)⟩ ⟨(Nat.le_of_ble_eq_true rfl), (Nat.le_of_ble_eq_true rfl)⟩ (Nat.le_of_ble_eq_true rfl) ?_
      refine j_icmp_ge 40 dX5_peopleForetoldPaler_31 (by decide) (fun b31 => ?_) (fun b31 => ?_)
      · first | refine j_iincN dX5_peopleForetoldPaler_40 rfl (Nat.le_of_ble_eq_true rfl) rfl ?_ | refine j_iinc _ dX5_peopleForetoldPaler_40 rfl rfl (Nat.le_of_ble_eq_true rfl) rfl ?_
        refine j_goto 4 dX5_peopleForetoldPaler_43 (by decide) ?_
        have ih2 := ih (i + 1) (by omega) (by omega)
        first | (rw [e1, if_pos b31] at ih2; exact ih2) | (rw [e1, if_neg b31] at ih2; exact ih2)
      · refine j_iload_n dX5_peopleForetoldPaler_34 rfl rfl ?_
        refine j_iconst (nI 1) dX5_peopleForetoldPaler_35 rfl ?_
        refine j_iload_n dX5_peopleForetoldPaler_36 rfl rfl ?_
        refine j_ishl dX5_peopleForetoldPaler_37 ?_
        refine j_ior dX5_peopleForetoldPaler_38 ?_
        refine j_istore_n dX5_peopleForetoldPaler_39 rfl (Nat.le_of_ble_eq_true rfl) rfl ?_
        first | refine j_iincN dX5_peopleForetoldPaler_40 rfl (Nat.le_of_ble_eq_true rfl) rfl ?_ | refine j_iinc _ dX5_peopleForetoldPaler_40 rfl rfl (Nat.le_of_ble_eq_true rfl) rfl ?_
        refine j_goto 4 dX5_peopleForetoldPaler_43 (by decide) ?_
        have ih2 := ih (i + 1) (by omega) (by omega)
        first | (rw [e1, if_pos b31] at ih2; exact ih2) | (rw [e1, if_neg b31] at ih2; exact ih2)
theorem x_hiding_state (X : XR σ lf fd rl rn ri tp rd dd d df nx kp da di tr bo ne) (w : Int32) (h : sN d = 0) : Ct G yX5_hiding cX5_hiding 3 (some .int) 5 0 0 z σ [.ref 0, .int w] (some (.int (-1000002))) z σ := by
  refine Ct.ofJ RX5 rfl [some (.ref 0), some (.int w), none] rfl (by decide) (by simp [Value.category]) ?_
  refine j_aload_n dX5_hiding_0 rfl rfl ?_
  refine j_callV (c_isNoTown X) dX5_hiding_1 rfl mv_X5_170 (by first | exact X.1 | exact X.2.1 | exact X.2.2.2.1 | exact X.2.2.2.2.1 | exact X.2.2.2.2.2.2.1.o | exact X.2.2.2.2.2.2.1.c | exact X.2.2.2.2.2.2.1.i | exact X.2.2.2.2.2.2.1.p | exact X.2.2.2.2.2.2.1.d | exact X.2.2.2.2.2.2.2.1.o | exact X.2.2.2.2.2.2.2.2.1 | exact X.2.2.2.2.2.2.2.2.2.1 | exact X.2.2.2.2.2.2.2.2.2.2.2.1 | exact X.2.2.2.2.2.2.2.2.2.2.2.2.2.1 | exact X.2.2.2.2.2.2.2.2.2.2.2.2.2.2.1 | exact X.2.2.2.2.2.2.2.2.2.2.2.2.2.2.2) rfl ⟨(Nat.le_of_ble_eq_true rfl), (Nat.le_of_ble_eq_true rfl)⟩ ⟨(Nat.le_of_ble_eq_true rfl), (Nat.le_of_ble_eq_true rfl)⟩ (Nat.le_of_ble_eq_true rfl) ?_
  refine j_top (nI 1) (by rw [h]; rfl) ?_
  refine j_if_eq 10 dX5_hiding_4 (by decide) (fun h => absurd h (by decide)) (fun _ => ?_)
  refine j_ldc (-1000002) dX5_hiding_7 kc_X5_140 ?_
  exact j_iret rfl dX5_hiding_9 rfl rfl (Nat.le_of_ble_eq_true rfl) (Nat.le_of_ble_eq_true rfl)
theorem x_hiding_bad (X : XR σ lf fd rl rn ri tp rd dd d df nx kp da di tr bo ne) (w : Int32) (hN : sN d ≤ 7) (h0 : 1 ≤ sN d) (h : w < 0 ∨ nI 1 < w) : Ct G yX5_hiding cX5_hiding 3 (some .int) 5 0 0 z σ [.ref 0, .int w] (some (.int (-1000001))) z σ := by
  refine Ct.ofJ RX5 rfl [some (.ref 0), some (.int w), none] rfl (by decide) (by simp [Value.category]) ?_
  refine j_aload_n dX5_hiding_0 rfl rfl ?_
  refine j_callV (c_isNoTown X) dX5_hiding_1 rfl mv_X5_170 (by first | exact X.1 | exact X.2.1 | exact X.2.2.2.1 | exact X.2.2.2.2.1 | exact X.2.2.2.2.2.2.1.o | exact X.2.2.2.2.2.2.1.c | exact X.2.2.2.2.2.2.1.i | exact X.2.2.2.2.2.2.1.p | exact X.2.2.2.2.2.2.1.d | exact X.2.2.2.2.2.2.2.1.o | exact X.2.2.2.2.2.2.2.2.1 | exact X.2.2.2.2.2.2.2.2.2.1 | exact X.2.2.2.2.2.2.2.2.2.2.2.1 | exact X.2.2.2.2.2.2.2.2.2.2.2.2.2.1 | exact X.2.2.2.2.2.2.2.2.2.2.2.2.2.2.1 | exact X.2.2.2.2.2.2.2.2.2.2.2.2.2.2.2) rfl ⟨(Nat.le_of_ble_eq_true rfl), (Nat.le_of_ble_eq_true rfl)⟩ ⟨(Nat.le_of_ble_eq_true rfl), (Nat.le_of_ble_eq_true rfl)⟩ (Nat.le_of_ble_eq_true rfl) ?_
  refine j_top (nI 0) (ntI_k h0 hN) ?_
  refine j_if_eq 10 dX5_hiding_4 (by decide) (fun _ => ?_) (fun h => absurd rfl h)
  refine j_iload_n dX5_hiding_10 rfl rfl ?_
  refine j_if_lt 19 dX5_hiding_11 (by decide) (fun b11 => ?_) (fun b11 => ?_)
  · refine j_ldc (-1000001) dX5_hiding_19 kc_X5_59 ?_
    exact j_iret rfl dX5_hiding_21 rfl rfl (Nat.le_of_ble_eq_true rfl) (Nat.le_of_ble_eq_true rfl)
  · refine j_iload_n dX5_hiding_14 rfl rfl ?_
    refine j_iconst (nI 1) dX5_hiding_15 rfl ?_
    refine j_icmp_le 22 dX5_hiding_16 (by decide) (fun b16 => ?_) (fun b16 => ?_)
    · exact absurd h (fun q => q.elim b11 (fun w => absurd b16 (Int32.not_le.mpr w)))
    · refine j_ldc (-1000001) dX5_hiding_19 kc_X5_59 ?_
      exact j_iret rfl dX5_hiding_21 rfl rfl (Nat.le_of_ble_eq_true rfl) (Nat.le_of_ble_eq_true rfl)
theorem x_hiding_ok (X : XR σ lf fd rl rn ri tp rd dd d df nx kp da di tr bo ne) {w : Nat} (hN : sN d ≤ 7) (h0 : 1 ≤ sN d) (hu : 1 ≤ sU d) (hu2 : sU d ≤ 20) (hw : w ≤ 1) : Ct G yX5_hiding cX5_hiding 3 (some .int) 5 0 0 z σ [.ref 0, .int (nI w)] (some (.int (if w = 1 then (strA (sN d) (sD d) (sN d)).2 else plI (sD d) (strA (sN d) (sD d) (sN d)).1 (sN d) (sU d) (sN d)))) z (twS (twS σ 30 d) 30 (sC d, sI d, sP d, (strA (sN d) (sD d) (sN d)).1, sN d, sU d, sR d, sQ d, sH d, sF d)) := by
  refine Ct.ofJ RX5 rfl [some (.ref 0), some (.int (nI w)), none] rfl (by decide) (by simp [Value.category]) ?_
  refine j_aload_n dX5_hiding_0 rfl rfl ?_
  refine j_callV (c_isNoTown X) dX5_hiding_1 rfl mv_X5_170 (by first | exact X.1 | exact X.2.1 | exact X.2.2.2.1 | exact X.2.2.2.2.1 | exact X.2.2.2.2.2.2.1.o | exact X.2.2.2.2.2.2.1.c | exact X.2.2.2.2.2.2.1.i | exact X.2.2.2.2.2.2.1.p | exact X.2.2.2.2.2.2.1.d | exact X.2.2.2.2.2.2.2.1.o | exact X.2.2.2.2.2.2.2.2.1 | exact X.2.2.2.2.2.2.2.2.2.1 | exact X.2.2.2.2.2.2.2.2.2.2.2.1 | exact X.2.2.2.2.2.2.2.2.2.2.2.2.2.1 | exact X.2.2.2.2.2.2.2.2.2.2.2.2.2.2.1 | exact X.2.2.2.2.2.2.2.2.2.2.2.2.2.2.2) rfl ⟨(Nat.le_of_ble_eq_true rfl), (Nat.le_of_ble_eq_true rfl)⟩ ⟨(Nat.le_of_ble_eq_true rfl), (Nat.le_of_ble_eq_true rfl)⟩ (Nat.le_of_ble_eq_true rfl) ?_
  refine j_top (nI 0) (ntI_k h0 hN) ?_
  refine j_if_eq 10 dX5_hiding_4 (by decide) (fun _ => ?_) (fun h => absurd rfl h)
  refine j_iload_n dX5_hiding_10 rfl rfl ?_
  refine j_if_lt 19 dX5_hiding_11 (by decide) (fun b11 => by exact absurd b11 (nI_pos (by omega))) (fun b11 => ?_)
  refine j_iload_n dX5_hiding_14 rfl rfl ?_
  refine j_iconst (nI 1) dX5_hiding_15 rfl ?_
  refine j_icmp_leN 22 dX5_hiding_16 (by decide) (by omega) (by omega) (fun b16 => ?_) (fun b16 => by exfalso; omega)
  refine j_aload_n dX5_hiding_22 rfl rfl ?_
  refine j_getf dX5_hiding_23 5 5 rfl (Nat.le_of_ble_eq_true rfl) fl_X5_30 in_5 (by first | exact X.1 | exact X.2.1 | exact X.2.2.2.1 | exact X.2.2.2.2.1 | exact X.2.2.2.2.2.2.1.o | exact X.2.2.2.2.2.2.1.c | exact X.2.2.2.2.2.2.1.i | exact X.2.2.2.2.2.2.1.p | exact X.2.2.2.2.2.2.1.d | exact X.2.2.2.2.2.2.2.1.o | exact X.2.2.2.2.2.2.2.2.1 | exact X.2.2.2.2.2.2.2.2.2.1 | exact X.2.2.2.2.2.2.2.2.2.2.2.1 | exact X.2.2.2.2.2.2.2.2.2.2.2.2.2.1 | exact X.2.2.2.2.2.2.2.2.2.2.2.2.2.2.1 | exact X.2.2.2.2.2.2.2.2.2.2.2.2.2.2.2) rfl ?_
  refine j_aload_n dX5_hiding_26 rfl rfl ?_
  refine j_getf dX5_hiding_27 5 4 rfl (Nat.le_of_ble_eq_true rfl) fl_X5_26 in_5 (by first | exact X.1 | exact X.2.1 | exact X.2.2.2.1 | exact X.2.2.2.2.1 | exact X.2.2.2.2.2.2.1.o | exact X.2.2.2.2.2.2.1.c | exact X.2.2.2.2.2.2.1.i | exact X.2.2.2.2.2.2.1.p | exact X.2.2.2.2.2.2.1.d | exact X.2.2.2.2.2.2.2.1.o | exact X.2.2.2.2.2.2.2.2.1 | exact X.2.2.2.2.2.2.2.2.2.1 | exact X.2.2.2.2.2.2.2.2.2.2.2.1 | exact X.2.2.2.2.2.2.2.2.2.2.2.2.2.1 | exact X.2.2.2.2.2.2.2.2.2.2.2.2.2.2.1 | exact X.2.2.2.2.2.2.2.2.2.2.2.2.2.2.2) rfl ?_
  refine j_callV (c_becomesS X.2.2.2.2.2.2.2.1 X.2.2.2.2.2.2.1 (Or.inl (by omega))) dX5_hiding_30 rfl mv_X5_124 (by first | exact X.1 | exact X.2.1 | exact X.2.2.2.1 | exact X.2.2.2.2.1 | exact X.2.2.2.2.2.2.1.o | exact X.2.2.2.2.2.2.1.c | exact X.2.2.2.2.2.2.1.i | exact X.2.2.2.2.2.2.1.p | exact X.2.2.2.2.2.2.1.d | exact X.2.2.2.2.2.2.2.1.o | exact X.2.2.2.2.2.2.2.2.1 | exact X.2.2.2.2.2.2.2.2.2.1 | exact X.2.2.2.2.2.2.2.2.2.2.2.1 | exact X.2.2.2.2.2.2.2.2.2.2.2.2.2.1 | exact X.2.2.2.2.2.2.2.2.2.2.2.2.2.2.1 | exact X.2.2.2.2.2.2.2.2.2.2.2.2.2.2.2) rfl ⟨(Nat.le_of_ble_eq_true rfl), (Nat.le_of_ble_eq_true rfl)⟩ ⟨(Nat.le_of_ble_eq_true rfl), (Nat.le_of_ble_eq_true rfl)⟩ (Nat.le_of_ble_eq_true rfl) ?_
  have X := X.fore d
  refine j_aload_n dX5_hiding_33 rfl rfl ?_
  refine j_getf dX5_hiding_34 5 5 rfl (Nat.le_of_ble_eq_true rfl) fl_X5_30 in_5 (by first | exact X.1 | exact X.2.1 | exact X.2.2.2.1 | exact X.2.2.2.2.1 | exact X.2.2.2.2.2.2.1.o | exact X.2.2.2.2.2.2.1.c | exact X.2.2.2.2.2.2.1.i | exact X.2.2.2.2.2.2.1.p | exact X.2.2.2.2.2.2.1.d | exact X.2.2.2.2.2.2.2.1.o | exact X.2.2.2.2.2.2.2.2.1 | exact X.2.2.2.2.2.2.2.2.2.1 | exact X.2.2.2.2.2.2.2.2.2.2.2.1 | exact X.2.2.2.2.2.2.2.2.2.2.2.2.2.1 | exact X.2.2.2.2.2.2.2.2.2.2.2.2.2.2.1 | exact X.2.2.2.2.2.2.2.2.2.2.2.2.2.2.2) rfl ?_
  refine j_callV (c_strikeOutMutualS X.2.2.2.2.2.2.2.1 hN) dX5_hiding_37 rfl mv_X5_210 (by first | exact X.1 | exact X.2.1 | exact X.2.2.2.1 | exact X.2.2.2.2.1 | exact X.2.2.2.2.2.2.1.o | exact X.2.2.2.2.2.2.1.c | exact X.2.2.2.2.2.2.1.i | exact X.2.2.2.2.2.2.1.p | exact X.2.2.2.2.2.2.1.d | exact X.2.2.2.2.2.2.2.1.o | exact X.2.2.2.2.2.2.2.2.1 | exact X.2.2.2.2.2.2.2.2.2.1 | exact X.2.2.2.2.2.2.2.2.2.2.2.1 | exact X.2.2.2.2.2.2.2.2.2.2.2.2.2.1 | exact X.2.2.2.2.2.2.2.2.2.2.2.2.2.2.1 | exact X.2.2.2.2.2.2.2.2.2.2.2.2.2.2.2) rfl ⟨(Nat.le_of_ble_eq_true rfl), (Nat.le_of_ble_eq_true rfl)⟩ ⟨(Nat.le_of_ble_eq_true rfl), (Nat.le_of_ble_eq_true rfl)⟩ (Nat.le_of_ble_eq_true rfl) ?_
  have X := X.fore (sC d, sI d, sP d, (strA (sN d) (sD d) (sN d)).1, sN d, sU d, sR d, sQ d, sH d, sF d)
  refine j_istore_n dX5_hiding_40 rfl (Nat.le_of_ble_eq_true rfl) rfl ?_
  refine j_iload_n dX5_hiding_41 rfl rfl ?_
  refine j_iconst (nI 1) dX5_hiding_42 rfl ?_
  refine j_icmp_neN 50 dX5_hiding_43 (by decide) (by omega) (by omega) (fun b43 => ?_) (fun b43 => ?_)
  · refine j_aload_n dX5_hiding_50 rfl rfl ?_
    refine j_callV (c_paler X hN hu hu2 rfl rfl) dX5_hiding_51 rfl mv_X5_214 (by first | exact X.1 | exact X.2.1 | exact X.2.2.2.1 | exact X.2.2.2.2.1 | exact X.2.2.2.2.2.2.1.o | exact X.2.2.2.2.2.2.1.c | exact X.2.2.2.2.2.2.1.i | exact X.2.2.2.2.2.2.1.p | exact X.2.2.2.2.2.2.1.d | exact X.2.2.2.2.2.2.2.1.o | exact X.2.2.2.2.2.2.2.2.1 | exact X.2.2.2.2.2.2.2.2.2.1 | exact X.2.2.2.2.2.2.2.2.2.2.2.1 | exact X.2.2.2.2.2.2.2.2.2.2.2.2.2.1 | exact X.2.2.2.2.2.2.2.2.2.2.2.2.2.2.1 | exact X.2.2.2.2.2.2.2.2.2.2.2.2.2.2.2) rfl ⟨(Nat.le_of_ble_eq_true rfl), (Nat.le_of_ble_eq_true rfl)⟩ ⟨(Nat.le_of_ble_eq_true rfl), (Nat.le_of_ble_eq_true rfl)⟩ (Nat.le_of_ble_eq_true rfl) ?_
    exact j_iret rfl dX5_hiding_54 (by first | rw [if_pos b43] | rw [if_neg b43]) rfl (Nat.le_of_ble_eq_true rfl) (Nat.le_of_ble_eq_true rfl)
  · refine j_iload_n dX5_hiding_46 rfl rfl ?_
    refine j_goto 54 dX5_hiding_47 (by decide) ?_
    exact j_iret rfl dX5_hiding_54 (by first | rw [if_pos b43] | rw [if_neg b43]) rfl (Nat.le_of_ble_eq_true rfl) (Nat.le_of_ble_eq_true rfl)
theorem x_run_state (X : XR σ lf fd rl rn ri tp rd dd d df nx kp da di tr bo ne) (t w : Int32) (h : sN d = 0) : Ct G yX5_run cX5_run 7 (some .int) 6 0 0 z σ [.ref 0, .int t, .int w] (some (.int (-1000002))) z σ := by
  refine Ct.ofJ RX5 rfl [some (.ref 0), some (.int t), some (.int w), none, none, none, none] rfl (by decide) (by simp [Value.category]) ?_
  refine j_aload_n dX5_run_0 rfl rfl ?_
  refine j_callV (c_isNoTown X) dX5_run_1 rfl mv_X5_170 (by first | exact X.1 | exact X.2.1 | exact X.2.2.2.1 | exact X.2.2.2.2.1 | exact X.2.2.2.2.2.2.1.o | exact X.2.2.2.2.2.2.1.c | exact X.2.2.2.2.2.2.1.i | exact X.2.2.2.2.2.2.1.p | exact X.2.2.2.2.2.2.1.d | exact X.2.2.2.2.2.2.2.1.o | exact X.2.2.2.2.2.2.2.2.1 | exact X.2.2.2.2.2.2.2.2.2.1 | exact X.2.2.2.2.2.2.2.2.2.2.2.1 | exact X.2.2.2.2.2.2.2.2.2.2.2.2.2.1 | exact X.2.2.2.2.2.2.2.2.2.2.2.2.2.2.1 | exact X.2.2.2.2.2.2.2.2.2.2.2.2.2.2.2) rfl ⟨(Nat.le_of_ble_eq_true rfl), (Nat.le_of_ble_eq_true rfl)⟩ ⟨(Nat.le_of_ble_eq_true rfl), (Nat.le_of_ble_eq_true rfl)⟩ (Nat.le_of_ble_eq_true rfl) ?_
  refine j_top (nI 1) (by rw [h]; rfl) ?_
  refine j_if_eq 10 dX5_run_4 (by decide) (fun h => absurd h (by decide)) (fun _ => ?_)
  refine j_ldc (-1000002) dX5_run_7 kc_X5_140 ?_
  exact j_iret rfl dX5_run_9 rfl rfl (Nat.le_of_ble_eq_true rfl) (Nat.le_of_ble_eq_true rfl)
theorem x_run_bad (X : XR σ lf fd rl rn ri tp rd dd d df nx kp da di tr bo ne) (t w : Int32) (hN : sN d ≤ 7) (h0 : 1 ≤ sN d) (h : t < nI 1 ∨ nI 9 < t ∨ w < 0 ∨ nI 2 < w) : Ct G yX5_run cX5_run 7 (some .int) 6 0 0 z σ [.ref 0, .int t, .int w] (some (.int (-1000001))) z σ := by
  refine Ct.ofJ RX5 rfl [some (.ref 0), some (.int t), some (.int w), none, none, none, none] rfl (by decide) (by simp [Value.category]) ?_
  refine j_aload_n dX5_run_0 rfl rfl ?_
  refine j_callV (c_isNoTown X) dX5_run_1 rfl mv_X5_170 (by first | exact X.1 | exact X.2.1 | exact X.2.2.2.1 | exact X.2.2.2.2.1 | exact X.2.2.2.2.2.2.1.o | exact X.2.2.2.2.2.2.1.c | exact X.2.2.2.2.2.2.1.i | exact X.2.2.2.2.2.2.1.p | exact X.2.2.2.2.2.2.1.d | exact X.2.2.2.2.2.2.2.1.o | exact X.2.2.2.2.2.2.2.2.1 | exact X.2.2.2.2.2.2.2.2.2.1 | exact X.2.2.2.2.2.2.2.2.2.2.2.1 | exact X.2.2.2.2.2.2.2.2.2.2.2.2.2.1 | exact X.2.2.2.2.2.2.2.2.2.2.2.2.2.2.1 | exact X.2.2.2.2.2.2.2.2.2.2.2.2.2.2.2) rfl ⟨(Nat.le_of_ble_eq_true rfl), (Nat.le_of_ble_eq_true rfl)⟩ ⟨(Nat.le_of_ble_eq_true rfl), (Nat.le_of_ble_eq_true rfl)⟩ (Nat.le_of_ble_eq_true rfl) ?_
  refine j_top (nI 0) (ntI_k h0 hN) ?_
  refine j_if_eq 10 dX5_run_4 (by decide) (fun _ => ?_) (fun h => absurd rfl h)
  refine j_iload_n dX5_run_10 rfl rfl ?_
  refine j_iconst (nI 1) dX5_run_11 rfl ?_
  refine j_icmp_lt 30 dX5_run_12 (by decide) (fun b12 => ?_) (fun b12 => ?_)
  · refine j_ldc (-1000001) dX5_run_30 kc_X5_59 ?_
    exact j_iret rfl dX5_run_32 rfl rfl (Nat.le_of_ble_eq_true rfl) (Nat.le_of_ble_eq_true rfl)
  · refine j_iload_n dX5_run_15 rfl rfl ?_
    refine j_bipush (nI 9) dX5_run_16 rfl ?_
    refine j_icmp_gt 30 dX5_run_18 (by decide) (fun b18 => ?_) (fun b18 => ?_)
    · refine j_ldc (-1000001) dX5_run_30 kc_X5_59 ?_
      exact j_iret rfl dX5_run_32 rfl rfl (Nat.le_of_ble_eq_true rfl) (Nat.le_of_ble_eq_true rfl)
    · refine j_iload_n dX5_run_21 rfl rfl ?_
      refine j_if_lt 30 dX5_run_22 (by decide) (fun b22 => ?_) (fun b22 => ?_)
      · refine j_ldc (-1000001) dX5_run_30 kc_X5_59 ?_
        exact j_iret rfl dX5_run_32 rfl rfl (Nat.le_of_ble_eq_true rfl) (Nat.le_of_ble_eq_true rfl)
      · refine j_iload_n dX5_run_25 rfl rfl ?_
        refine j_iconst (nI 2) dX5_run_26 rfl ?_
        refine j_icmp_le 33 dX5_run_27 (by decide) (fun b27 => ?_) (fun b27 => ?_)
        · exfalso
          rcases h with h | h | h | h
          · exact b12 h
          · exact b18 h
          · exact b22 h
          · exact absurd b27 (Int32.not_le.mpr h)
        · refine j_ldc (-1000001) dX5_run_30 kc_X5_59 ?_
          exact j_iret rfl dX5_run_32 rfl rfl (Nat.le_of_ble_eq_true rfl) (Nat.le_of_ble_eq_true rfl)
theorem x_run_ok (X : XR σ lf fd rl rn ri tp rd dd d df nx kp da di tr bo ne) {w : Nat} (t : Int32) (hN : sN d ≤ 7) (h0 : 1 ≤ sN d) (hu : 1 ≤ sU d) (hu2 : sU d ≤ 20) (h1 : ¬ t < nI 1) (h2 : ¬ nI 9 < t) (hw : w ≤ 2) : Ct G yX5_run cX5_run 7 (some .int) 6 0 0 z σ [.ref 0, .int t, .int (nI w)] (some (.int (if w = 0 then nI (rnL (sN d) 9 (sC d) (sD d) (seenI (sP d) (sD d) (sH d) t (sN d) (sU d) (sN d)) (seenI (sP d) (sD d) (sH d) t (sN d) (sU d) (sN d)) (nI 0) 0).2.2.2.2 else if w = 1 then (rnL (sN d) 9 (sC d) (sD d) (seenI (sP d) (sD d) (sH d) t (sN d) (sU d) (sN d)) (seenI (sP d) (sD d) (sH d) t (sN d) (sU d) (sN d)) (nI 0) 0).2.2.2.1 else (rnL (sN d) 9 (sC d) (sD d) (seenI (sP d) (sD d) (sH d) t (sN d) (sU d) (sN d)) (seenI (sP d) (sD d) (sH d) t (sN d) (sU d) (sN d)) (nI 0) 0).2.2.1))) z (twS (twS σ 30 d) 30 ((rnL (sN d) 9 (sC d) (sD d) (seenI (sP d) (sD d) (sH d) t (sN d) (sU d) (sN d)) (seenI (sP d) (sD d) (sH d) t (sN d) (sU d) (sN d)) (nI 0) 0).1, sI d, sP d, (rnL (sN d) 9 (sC d) (sD d) (seenI (sP d) (sD d) (sH d) t (sN d) (sU d) (sN d)) (seenI (sP d) (sD d) (sH d) t (sN d) (sU d) (sN d)) (nI 0) 0).2.1, sN d, sU d, sR d, sQ d, sH d, sF d)) := by
  refine Ct.ofJ RX5 rfl [some (.ref 0), some (.int t), some (.int (nI w)), none, none, none, none] rfl (by decide) (by simp [Value.category]) ?_
  refine j_aload_n dX5_run_0 rfl rfl ?_
  refine j_callV (c_isNoTown X) dX5_run_1 rfl mv_X5_170 (by first | exact X.1 | exact X.2.1 | exact X.2.2.2.1 | exact X.2.2.2.2.1 | exact X.2.2.2.2.2.2.1.o | exact X.2.2.2.2.2.2.1.c | exact X.2.2.2.2.2.2.1.i | exact X.2.2.2.2.2.2.1.p | exact X.2.2.2.2.2.2.1.d | exact X.2.2.2.2.2.2.2.1.o | exact X.2.2.2.2.2.2.2.2.1 | exact X.2.2.2.2.2.2.2.2.2.1 | exact X.2.2.2.2.2.2.2.2.2.2.2.1 | exact X.2.2.2.2.2.2.2.2.2.2.2.2.2.1 | exact X.2.2.2.2.2.2.2.2.2.2.2.2.2.2.1 | exact X.2.2.2.2.2.2.2.2.2.2.2.2.2.2.2) rfl ⟨(Nat.le_of_ble_eq_true rfl), (Nat.le_of_ble_eq_true rfl)⟩ ⟨(Nat.le_of_ble_eq_true rfl), (Nat.le_of_ble_eq_true rfl)⟩ (Nat.le_of_ble_eq_true rfl) ?_
  refine j_top (nI 0) (ntI_k h0 hN) ?_
  refine j_if_eq 10 dX5_run_4 (by decide) (fun _ => ?_) (fun h => absurd rfl h)
  refine j_iload_n dX5_run_10 rfl rfl ?_
  refine j_iconst (nI 1) dX5_run_11 rfl ?_
  refine j_icmp_lt 30 dX5_run_12 (by decide) (fun b12 => by exact absurd b12 h1) (fun b12 => ?_)
  refine j_iload_n dX5_run_15 rfl rfl ?_
  refine j_bipush (nI 9) dX5_run_16 rfl ?_
  refine j_icmp_gt 30 dX5_run_18 (by decide) (fun b18 => by exact absurd b18 h2) (fun b18 => ?_)
  refine j_iload_n dX5_run_21 rfl rfl ?_
  refine j_if_lt 30 dX5_run_22 (by decide) (fun b22 => by exact absurd b22 (nI_pos (by omega))) (fun b22 => ?_)
  refine j_iload_n dX5_run_25 rfl rfl ?_
  refine j_iconst (nI 2) dX5_run_26 rfl ?_
  refine j_icmp_leN 33 dX5_run_27 (by decide) (by omega) (by omega) (fun b27 => ?_) (fun b27 => by exfalso; omega)
  refine j_aload_n dX5_run_33 rfl rfl ?_
  refine j_getf dX5_run_34 5 5 rfl (Nat.le_of_ble_eq_true rfl) fl_X5_30 in_5 (by first | exact X.1 | exact X.2.1 | exact X.2.2.2.1 | exact X.2.2.2.2.1 | exact X.2.2.2.2.2.2.1.o | exact X.2.2.2.2.2.2.1.c | exact X.2.2.2.2.2.2.1.i | exact X.2.2.2.2.2.2.1.p | exact X.2.2.2.2.2.2.1.d | exact X.2.2.2.2.2.2.2.1.o | exact X.2.2.2.2.2.2.2.2.1 | exact X.2.2.2.2.2.2.2.2.2.1 | exact X.2.2.2.2.2.2.2.2.2.2.2.1 | exact X.2.2.2.2.2.2.2.2.2.2.2.2.2.1 | exact X.2.2.2.2.2.2.2.2.2.2.2.2.2.2.1 | exact X.2.2.2.2.2.2.2.2.2.2.2.2.2.2.2) rfl ?_
  refine j_aload_n dX5_run_37 rfl rfl ?_
  refine j_getf dX5_run_38 5 4 rfl (Nat.le_of_ble_eq_true rfl) fl_X5_26 in_5 (by first | exact X.1 | exact X.2.1 | exact X.2.2.2.1 | exact X.2.2.2.2.1 | exact X.2.2.2.2.2.2.1.o | exact X.2.2.2.2.2.2.1.c | exact X.2.2.2.2.2.2.1.i | exact X.2.2.2.2.2.2.1.p | exact X.2.2.2.2.2.2.1.d | exact X.2.2.2.2.2.2.2.1.o | exact X.2.2.2.2.2.2.2.2.1 | exact X.2.2.2.2.2.2.2.2.2.1 | exact X.2.2.2.2.2.2.2.2.2.2.2.1 | exact X.2.2.2.2.2.2.2.2.2.2.2.2.2.1 | exact X.2.2.2.2.2.2.2.2.2.2.2.2.2.2.1 | exact X.2.2.2.2.2.2.2.2.2.2.2.2.2.2.2) rfl ?_
  refine j_callV (c_becomesS X.2.2.2.2.2.2.2.1 X.2.2.2.2.2.2.1 (Or.inl (by omega))) dX5_run_41 rfl mv_X5_124 (by first | exact X.1 | exact X.2.1 | exact X.2.2.2.1 | exact X.2.2.2.2.1 | exact X.2.2.2.2.2.2.1.o | exact X.2.2.2.2.2.2.1.c | exact X.2.2.2.2.2.2.1.i | exact X.2.2.2.2.2.2.1.p | exact X.2.2.2.2.2.2.1.d | exact X.2.2.2.2.2.2.2.1.o | exact X.2.2.2.2.2.2.2.2.1 | exact X.2.2.2.2.2.2.2.2.2.1 | exact X.2.2.2.2.2.2.2.2.2.2.2.1 | exact X.2.2.2.2.2.2.2.2.2.2.2.2.2.1 | exact X.2.2.2.2.2.2.2.2.2.2.2.2.2.2.1 | exact X.2.2.2.2.2.2.2.2.2.2.2.2.2.2.2) rfl ⟨(Nat.le_of_ble_eq_true rfl), (Nat.le_of_ble_eq_true rfl)⟩ ⟨(Nat.le_of_ble_eq_true rfl), (Nat.le_of_ble_eq_true rfl)⟩ (Nat.le_of_ble_eq_true rfl) ?_
  have X := X.fore d
  refine j_aload_n dX5_run_44 rfl rfl ?_
  refine j_getf dX5_run_45 5 4 rfl (Nat.le_of_ble_eq_true rfl) fl_X5_26 in_5 (by first | exact X.1 | exact X.2.1 | exact X.2.2.2.1 | exact X.2.2.2.2.1 | exact X.2.2.2.2.2.2.1.o | exact X.2.2.2.2.2.2.1.c | exact X.2.2.2.2.2.2.1.i | exact X.2.2.2.2.2.2.1.p | exact X.2.2.2.2.2.2.1.d | exact X.2.2.2.2.2.2.2.1.o | exact X.2.2.2.2.2.2.2.2.1 | exact X.2.2.2.2.2.2.2.2.2.1 | exact X.2.2.2.2.2.2.2.2.2.2.2.1 | exact X.2.2.2.2.2.2.2.2.2.2.2.2.2.1 | exact X.2.2.2.2.2.2.2.2.2.2.2.2.2.2.1 | exact X.2.2.2.2.2.2.2.2.2.2.2.2.2.2.2) rfl ?_
  refine j_iload_n dX5_run_48 rfl rfl ?_
  refine j_callV (c_seenFromS X.2.2.2.2.2.2.1 t hN hu hu2) dX5_run_49 rfl mv_X5_221 (by first | exact X.1 | exact X.2.1 | exact X.2.2.2.1 | exact X.2.2.2.2.1 | exact X.2.2.2.2.2.2.1.o | exact X.2.2.2.2.2.2.1.c | exact X.2.2.2.2.2.2.1.i | exact X.2.2.2.2.2.2.1.p | exact X.2.2.2.2.2.2.1.d | exact X.2.2.2.2.2.2.2.1.o | exact X.2.2.2.2.2.2.2.2.1 | exact X.2.2.2.2.2.2.2.2.2.1 | exact X.2.2.2.2.2.2.2.2.2.2.2.1 | exact X.2.2.2.2.2.2.2.2.2.2.2.2.2.1 | exact X.2.2.2.2.2.2.2.2.2.2.2.2.2.2.1 | exact X.2.2.2.2.2.2.2.2.2.2.2.2.2.2.2) rfl ⟨(Nat.le_of_ble_eq_true rfl), (Nat.le_of_ble_eq_true rfl)⟩ ⟨(Nat.le_of_ble_eq_true rfl), (Nat.le_of_ble_eq_true rfl)⟩ (Nat.le_of_ble_eq_true rfl) ?_
  refine j_istore_n dX5_run_52 rfl (Nat.le_of_ble_eq_true rfl) rfl ?_
  refine j_iload_n dX5_run_53 rfl rfl ?_
  refine j_istore dX5_run_54 (Nat.le_of_ble_eq_true rfl) rfl ?_
  refine j_iconst (nI 0) dX5_run_56 rfl ?_
  refine j_istore dX5_run_57 (Nat.le_of_ble_eq_true rfl) rfl ?_
  refine j_iconst (nI 0) dX5_run_59 rfl ?_
  refine j_istore dX5_run_60 (Nat.le_of_ble_eq_true rfl) rfl ?_
  suffices H : ∀ (f r : Nat) (ca de : Nat → Int32) (cl nw ow : Int32), r + f = 9 → rnL (sN d) f ca de cl nw ow r = (rnL (sN d) 9 (sC d) (sD d) (seenI (sP d) (sD d) (sH d) t (sN d) (sU d) (sN d)) (seenI (sP d) (sD d) (sH d) t (sN d) (sU d) (sN d)) (nI 0) 0) → J G RX5 cX5_run 7 (some .int) (TQ G 6 0 0 (some (.int (if w = 0 then nI (rnL (sN d) 9 (sC d) (sD d) (seenI (sP d) (sD d) (sH d) t (sN d) (sU d) (sN d)) (seenI (sP d) (sD d) (sH d) t (sN d) (sU d) (sN d)) (nI 0) 0).2.2.2.2 else if w = 1 then (rnL (sN d) 9 (sC d) (sD d) (seenI (sP d) (sD d) (sH d) t (sN d) (sU d) (sN d)) (seenI (sP d) (sD d) (sH d) t (sN d) (sU d) (sN d)) (nI 0) 0).2.2.2.1 else (rnL (sN d) 9 (sC d) (sD d) (seenI (sP d) (sD d) (sH d) t (sN d) (sU d) (sN d)) (seenI (sP d) (sD d) (sH d) t (sN d) (sU d) (sN d)) (nI 0) 0).2.2.1))) z (twS (twS σ 30 d) 30 ((rnL (sN d) 9 (sC d) (sD d) (seenI (sP d) (sD d) (sH d) t (sN d) (sU d) (sN d)) (seenI (sP d) (sD d) (sH d) t (sN d) (sU d) (sN d)) (nI 0) 0).1, sI d, sP d, (rnL (sN d) 9 (sC d) (sD d) (seenI (sP d) (sD d) (sH d) t (sN d) (sU d) (sN d)) (seenI (sP d) (sD d) (sH d) t (sN d) (sU d) (sN d)) (nI 0) 0).2.1, sN d, sU d, sR d, sQ d, sH d, sF d))) z (twS (twS σ 30 d) 30 (ca, sI d, sP d, de, sN d, sU d, sR d, sQ d, sH d, sF d)) 0 0 62 [some (.ref 0), some (.int t), some (.int (nI w)), some (.int cl), some (.int nw), some (.int ow), some (.int (nI r))] [] from (by have H0 := H 9 0 (sC d) (sD d) (seenI (sP d) (sD d) (sH d) t (sN d) (sU d) (sN d)) (seenI (sP d) (sD d) (sH d) t (sN d) (sU d) (sN d)) (nI 0) rfl rfl; rw [show twS (twS σ 30 d) 30 (sC d, sI d, sP d, sD d, sN d, sU d, sR d, sQ d, sH d, sF d) = twS σ 30 d from Tat.new] at H0; exact H0)
  have hend : ∀ (r : Nat) (ca de : Nat → Int32) (cl nw ow : Int32), r ≤ 9 → (ca, de, cl, ow, r) = (rnL (sN d) 9 (sC d) (sD d) (seenI (sP d) (sD d) (sH d) t (sN d) (sU d) (sN d)) (seenI (sP d) (sD d) (sH d) t (sN d) (sU d) (sN d)) (nI 0) 0) → J G RX5 cX5_run 7 (some .int) (TQ G 6 0 0 (some (.int (if w = 0 then nI (rnL (sN d) 9 (sC d) (sD d) (seenI (sP d) (sD d) (sH d) t (sN d) (sU d) (sN d)) (seenI (sP d) (sD d) (sH d) t (sN d) (sU d) (sN d)) (nI 0) 0).2.2.2.2 else if w = 1 then (rnL (sN d) 9 (sC d) (sD d) (seenI (sP d) (sD d) (sH d) t (sN d) (sU d) (sN d)) (seenI (sP d) (sD d) (sH d) t (sN d) (sU d) (sN d)) (nI 0) 0).2.2.2.1 else (rnL (sN d) 9 (sC d) (sD d) (seenI (sP d) (sD d) (sH d) t (sN d) (sU d) (sN d)) (seenI (sP d) (sD d) (sH d) t (sN d) (sU d) (sN d)) (nI 0) 0).2.2.1))) z (twS (twS σ 30 d) 30 ((rnL (sN d) 9 (sC d) (sD d) (seenI (sP d) (sD d) (sH d) t (sN d) (sU d) (sN d)) (seenI (sP d) (sD d) (sH d) t (sN d) (sU d) (sN d)) (nI 0) 0).1, sI d, sP d, (rnL (sN d) 9 (sC d) (sD d) (seenI (sP d) (sD d) (sH d) t (sN d) (sU d) (sN d)) (seenI (sP d) (sD d) (sH d) t (sN d) (sU d) (sN d)) (nI 0) 0).2.1, sN d, sU d, sR d, sQ d, sH d, sF d))) z (twS (twS σ 30 d) 30 (ca, sI d, sP d, de, sN d, sU d, sR d, sQ d, sH d, sF d)) 0 0 110 [some (.ref 0), some (.int t), some (.int (nI w)), some (.int cl), some (.int nw), some (.int ow), some (.int (nI r))] [] := by
    intro r ca de cl nw ow hr he
    rw [← he]
    refine j_iload_n dX5_run_110 rfl rfl ?_
    refine j_if_ne 117 dX5_run_111 (by decide) (fun b111 => ?_) (fun b111 => ?_)
    · refine j_iload_n dX5_run_117 rfl rfl ?_
      refine j_iconst (nI 1) dX5_run_118 rfl ?_
      refine j_icmp_neN 127 dX5_run_119 (by decide) (by omega) (by omega) (fun b119 => ?_) (fun b119 => ?_)
      · refine j_iload_n dX5_run_127 rfl rfl ?_
        exact j_iret rfl dX5_run_128 (by rw [if_neg (fun q => b111 (by rw [q]; rfl))]; first | rw [if_pos b119] | rw [if_neg b119]) rfl (Nat.le_of_ble_eq_true rfl) (Nat.le_of_ble_eq_true rfl)
      · refine j_iload dX5_run_122 rfl ?_
        refine j_goto 128 dX5_run_124 (by decide) ?_
        exact j_iret rfl dX5_run_128 (by rw [if_neg (fun q => b111 (by rw [q]; rfl))]; first | rw [if_pos b119] | rw [if_neg b119]) rfl (Nat.le_of_ble_eq_true rfl) (Nat.le_of_ble_eq_true rfl)
    · refine j_iload dX5_run_114 rfl ?_
      exact j_iret rfl dX5_run_116 (by rw [if_pos ((nI_eq (a := w) (b := 0) (by omega) (by omega)).mp b111)]) rfl (Nat.le_of_ble_eq_true rfl) (Nat.le_of_ble_eq_true rfl)
  intro f
  induction f with
  | zero =>
    intro r ca de cl nw ow hr he
    have X := X.fore (ca, sI d, sP d, de, sN d, sU d, sR d, sQ d, sH d, sF d)
    refine j_iload dX5_run_62 rfl ?_
    refine j_if_eq 110 dX5_run_64 (by decide) (fun b64 => ?_) (fun b64 => ?_)
    · exact hend r ca de cl nw ow (by omega) he
    · refine j_iload dX5_run_67 rfl ?_
      refine j_bipush (nI 7) dX5_run_69 rfl ?_
      refine j_icmp_gtN 110 dX5_run_71 (by decide) (by omega) (by omega) (fun b71 => ?_) (fun b71 => by exfalso; omega)
      exact hend r ca de cl nw ow (by omega) he
  | succ f ih =>
    intro r ca de cl nw ow hr he
    have X := X.fore (ca, sI d, sP d, de, sN d, sU d, sR d, sQ d, sH d, sF d)
    unfold rnL at he
    refine j_iload dX5_run_62 rfl ?_
    refine j_if_eq 110 dX5_run_64 (by decide) (fun b64 => ?_) (fun b64 => ?_)
    · refine hend r ca de cl nw ow (by omega) ?_
      first | (rw [if_pos b64] at he; exact he) | (rw [if_neg b64, if_pos b71] at he; exact he)
    · refine j_iload dX5_run_67 rfl ?_
      refine j_bipush (nI 7) dX5_run_69 rfl ?_
      refine j_icmp_gtN 110 dX5_run_71 (by decide) (by omega) (by omega) (fun b71 => ?_) (fun b71 => ?_)
      · refine hend r ca de cl nw ow (by omega) ?_
        first | (rw [if_pos b64] at he; exact he) | (rw [if_neg b64, if_pos b71] at he; exact he)
      · first | refine j_iincN dX5_run_74 rfl (Nat.le_of_ble_eq_true rfl) rfl ?_ | refine j_iinc _ dX5_run_74 rfl rfl (Nat.le_of_ble_eq_true rfl) rfl ?_
        refine j_aload_n dX5_run_77 rfl rfl ?_
        refine j_getf dX5_run_78 5 5 rfl (Nat.le_of_ble_eq_true rfl) fl_X5_30 in_5 (by first | exact X.1 | exact X.2.1 | exact X.2.2.2.1 | exact X.2.2.2.2.1 | exact X.2.2.2.2.2.2.1.o | exact X.2.2.2.2.2.2.1.c | exact X.2.2.2.2.2.2.1.i | exact X.2.2.2.2.2.2.1.p | exact X.2.2.2.2.2.2.1.d | exact X.2.2.2.2.2.2.2.1.o | exact X.2.2.2.2.2.2.2.2.1 | exact X.2.2.2.2.2.2.2.2.2.1 | exact X.2.2.2.2.2.2.2.2.2.2.2.1 | exact X.2.2.2.2.2.2.2.2.2.2.2.2.2.1 | exact X.2.2.2.2.2.2.2.2.2.2.2.2.2.2.1 | exact X.2.2.2.2.2.2.2.2.2.2.2.2.2.2.2) rfl ?_
        refine j_iload_n dX5_run_81 rfl rfl ?_
        refine j_callV (c_settleAllS X.2.2.2.2.2.2.2.1 cl hN) dX5_run_82 rfl mv_X5_224 (by first | exact X.1 | exact X.2.1 | exact X.2.2.2.1 | exact X.2.2.2.2.1 | exact X.2.2.2.2.2.2.1.o | exact X.2.2.2.2.2.2.1.c | exact X.2.2.2.2.2.2.1.i | exact X.2.2.2.2.2.2.1.p | exact X.2.2.2.2.2.2.1.d | exact X.2.2.2.2.2.2.2.1.o | exact X.2.2.2.2.2.2.2.2.1 | exact X.2.2.2.2.2.2.2.2.2.1 | exact X.2.2.2.2.2.2.2.2.2.2.2.1 | exact X.2.2.2.2.2.2.2.2.2.2.2.2.2.1 | exact X.2.2.2.2.2.2.2.2.2.2.2.2.2.2.1 | exact X.2.2.2.2.2.2.2.2.2.2.2.2.2.2.2) rfl ⟨(Nat.le_of_ble_eq_true rfl), (Nat.le_of_ble_eq_true rfl)⟩ ⟨(Nat.le_of_ble_eq_true rfl), (Nat.le_of_ble_eq_true rfl)⟩ (Nat.le_of_ble_eq_true rfl) ?_
        have X := X.fore ((stA (sN d) cl ca de (sN d)).1, sI d, sP d, (stA (sN d) cl ca de (sN d)).2.1, sN d, sU d, sR d, sQ d, sH d, sF d)
        refine j_istore dX5_run_85 (Nat.le_of_ble_eq_true rfl) rfl ?_
        refine j_aload_n dX5_run_87 rfl rfl ?_
        refine j_getf dX5_run_88 5 5 rfl (Nat.le_of_ble_eq_true rfl) fl_X5_30 in_5 (by first | exact X.1 | exact X.2.1 | exact X.2.2.2.1 | exact X.2.2.2.2.1 | exact X.2.2.2.2.2.2.1.o | exact X.2.2.2.2.2.2.1.c | exact X.2.2.2.2.2.2.1.i | exact X.2.2.2.2.2.2.1.p | exact X.2.2.2.2.2.2.1.d | exact X.2.2.2.2.2.2.2.1.o | exact X.2.2.2.2.2.2.2.2.1 | exact X.2.2.2.2.2.2.2.2.2.1 | exact X.2.2.2.2.2.2.2.2.2.2.2.1 | exact X.2.2.2.2.2.2.2.2.2.2.2.2.2.1 | exact X.2.2.2.2.2.2.2.2.2.2.2.2.2.2.1 | exact X.2.2.2.2.2.2.2.2.2.2.2.2.2.2.2) rfl ?_
        refine j_iload dX5_run_91 rfl ?_
        refine j_callV (c_lendersOfS X.2.2.2.2.2.2.2.1 _ hN) dX5_run_93 rfl mv_X5_227 (by first | exact X.1 | exact X.2.1 | exact X.2.2.2.1 | exact X.2.2.2.2.1 | exact X.2.2.2.2.2.2.1.o | exact X.2.2.2.2.2.2.1.c | exact X.2.2.2.2.2.2.1.i | exact X.2.2.2.2.2.2.1.p | exact X.2.2.2.2.2.2.1.d | exact X.2.2.2.2.2.2.2.1.o | exact X.2.2.2.2.2.2.2.2.1 | exact X.2.2.2.2.2.2.2.2.2.1 | exact X.2.2.2.2.2.2.2.2.2.2.2.1 | exact X.2.2.2.2.2.2.2.2.2.2.2.2.2.1 | exact X.2.2.2.2.2.2.2.2.2.2.2.2.2.2.1 | exact X.2.2.2.2.2.2.2.2.2.2.2.2.2.2.2) rfl ⟨(Nat.le_of_ble_eq_true rfl), (Nat.le_of_ble_eq_true rfl)⟩ ⟨(Nat.le_of_ble_eq_true rfl), (Nat.le_of_ble_eq_true rfl)⟩ (Nat.le_of_ble_eq_true rfl) ?_
        refine j_iload_n dX5_run_96 rfl rfl ?_
        refine j_iconst (-1) dX5_run_97 rfl ?_
        refine j_ixor dX5_run_98 ?_
        refine j_iand dX5_run_99 ?_
        refine j_istore dX5_run_100 (Nat.le_of_ble_eq_true rfl) rfl ?_
        refine j_iload_n dX5_run_102 rfl rfl ?_
        refine j_iload dX5_run_103 rfl ?_
        refine j_ior dX5_run_105 ?_
        refine j_istore_n dX5_run_106 rfl (Nat.le_of_ble_eq_true rfl) rfl ?_
        refine j_goto 62 dX5_run_107 (by decide) ?_
        rw [if_neg b64, if_neg (by omega)] at he
        have ih2 := ih (r + 1) _ _ _ _ _ (by omega) he
        rw [show twS (twS σ 30 d) 30 ((stA (sN d) cl ca de (sN d)).1, sI d, sP d, (stA (sN d) cl ca de (sN d)).2.1, sN d, sU d, sR d, sQ d, sH d, sF d) = twS (twS (twS σ 30 d) 30 (ca, sI d, sP d, de, sN d, sU d, sR d, sQ d, sH d, sF d)) 30 ((stA (sN d) cl ca de (sN d)).1, sI d, sP d, (stA (sN d) cl ca de (sN d)).2.1, sN d, sU d, sR d, sQ d, sH d, sF d) from tw_tw.symm] at ih2
        exact ih2
end O6

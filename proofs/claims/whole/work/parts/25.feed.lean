/-! THE CLASS's calls: fits itself, feed -/
def fdB (w : Int64) (l : Nat) : Int32 := (w >>> ((nI (8 * l)).toInt64 &&& 63)).toInt32.toInt8.toInt32
def fdT (w : Int64) (m len : Nat) (tp : Nat → Int32) : Nat → Nat → Int32
  | 0 => tp
  | k + 1 => upd (fdT w m len tp k) (len + k) ((fdB w (m - 1 - k)).toInt8.toInt32)
abbrev fdH (σ : AH) (tp rd : Nat → Int32) (x : Int32) : AH := ups (ups σ 19 (.inl (1, 400, tp))) 18 (xR (upd rd 0 x))
theorem ups4 {σ : AH} {a b a2 b2 : AE} : ups (ups (ups (ups σ 19 a) 18 b) 19 a2) 18 b2 = ups (ups σ 19 a2) 18 b2 := by
  funext k
  unfold ups
  by_cases h1 : k = 18
  · simp only [if_pos h1]
  · by_cases h2 : k = 19
    · simp only [if_neg h1, if_pos h2]
    · simp only [if_neg h1, if_neg h2]
section O8
variable {G : GG} {z : Nat} {σ : AH} {lf fd : Int32} {rl rn : Nat → Int32} {ri : Nat → Nat → Int32} {tp rd : Nat → Int32} {dd d df : TS} {nx kp : Nat} {da di : Nat → TS} {tr : Nat} {bo ne : Nat → Int32}
theorem x_fits_bad (r i m : Int32) (h : ¬ nrI r = 0 ∨ m < 0 ∨ nI 3 < m) : Ct G yX5_fits cX5_fits 5 (some .int) 3 0 0 z σ [.ref 0, .int r, .int i, .int m] (some (.int (-1000001))) z σ := by
  refine Ct.ofJ RX5 rfl [some (.ref 0), some (.int r), some (.int i), some (.int m), none] rfl (by decide) (by simp [Value.category]) ?_
  refine j_iload_n dX5_fits_0 rfl rfl ?_
  refine j_callS (c_isNoRow r) dX5_fits_1 rfl ms_X5_55 ⟨(Nat.le_of_ble_eq_true rfl), (Nat.le_of_ble_eq_true rfl)⟩ ⟨(Nat.le_of_ble_eq_true rfl), (Nat.le_of_ble_eq_true rfl)⟩ (Nat.le_of_ble_eq_true rfl) ?_
  refine j_if_ne 16 dX5_fits_4 (by decide) (fun b4 => ?_) (fun b4 => ?_)
  · refine j_ldc (-1000001) dX5_fits_16 kc_X5_59 ?_
    exact j_iret rfl dX5_fits_18 rfl rfl (Nat.le_of_ble_eq_true rfl) (Nat.le_of_ble_eq_true rfl)
  · refine j_iload_n dX5_fits_7 rfl rfl ?_
    refine j_if_lt 16 dX5_fits_8 (by decide) (fun b8 => ?_) (fun b8 => ?_)
    · refine j_ldc (-1000001) dX5_fits_16 kc_X5_59 ?_
      exact j_iret rfl dX5_fits_18 rfl rfl (Nat.le_of_ble_eq_true rfl) (Nat.le_of_ble_eq_true rfl)
    · refine j_iload_n dX5_fits_11 rfl rfl ?_
      refine j_iconst (nI 3) dX5_fits_12 rfl ?_
      refine j_icmp_le 19 dX5_fits_13 (by decide) (fun b13 => ?_) (fun b13 => ?_)
      · exfalso
        rcases h with h | h | h
        · exact h b4
        · exact b8 h
        · exact absurd b13 (Int32.not_le.mpr h)
      · refine j_ldc (-1000001) dX5_fits_16 kc_X5_59 ?_
        exact j_iret rfl dX5_fits_18 rfl rfl (Nat.le_of_ble_eq_true rfl) (Nat.le_of_ble_eq_true rfl)
theorem x_fits_null (X : XR σ lf fd rl rn ri tp rd dd d df nx kp da di tr bo ne) {k m : Nat} (i : Int32) (hk : k < 8) (hm : m ≤ 3) (hl : rl k = -1) : Ct G yX5_fits cX5_fits 5 (some .int) 3 0 0 z σ [.ref 0, .int (nI k), .int i, .int (nI m)] (some (.int (-1000010 - nI 1))) z (ups σ 0 (xO lf (nI 1))) := by
  refine Ct.ofJ RX5 rfl [some (.ref 0), some (.int (nI k)), some (.int i), some (.int (nI m)), none] rfl (by decide) (by simp [Value.category]) ?_
  refine j_iload_n dX5_fits_0 rfl rfl ?_
  refine j_callS (c_isNoRow (nI k)) dX5_fits_1 rfl ms_X5_55 ⟨(Nat.le_of_ble_eq_true rfl), (Nat.le_of_ble_eq_true rfl)⟩ ⟨(Nat.le_of_ble_eq_true rfl), (Nat.le_of_ble_eq_true rfl)⟩ (Nat.le_of_ble_eq_true rfl) ?_
  refine j_top (nI 0) (nrI_k hk) ?_
  refine j_if_ne 16 dX5_fits_4 (by decide) (fun h => absurd rfl h) (fun _ => ?_)
  refine j_iload_n dX5_fits_7 rfl rfl ?_
  refine j_if_lt 16 dX5_fits_8 (by decide) (fun b8 => by exact absurd b8 (nI_pos (by omega))) (fun b8 => ?_)
  refine j_iload_n dX5_fits_11 rfl rfl ?_
  refine j_iconst (nI 3) dX5_fits_12 rfl ?_
  refine j_icmp_leN 19 dX5_fits_13 (by decide) (by omega) (by omega) (fun b13 => ?_) (fun b13 => by exfalso; omega)
  refine j_aload_n dX5_fits_19 rfl rfl ?_
  refine j_getf dX5_fits_20 5 0 rfl (Nat.le_of_ble_eq_true rfl) fl_X5_11 in_5 (by first | exact X.1 | exact X.2.1 | exact X.2.2.2.1 | exact X.2.2.2.2.1 | exact X.2.2.2.2.2.2.1.o | exact X.2.2.2.2.2.2.1.c | exact X.2.2.2.2.2.2.1.i | exact X.2.2.2.2.2.2.1.p | exact X.2.2.2.2.2.2.1.d | exact X.2.2.2.2.2.2.2.1.o | exact X.2.2.2.2.2.2.2.2.1 | exact X.2.2.2.2.2.2.2.2.2.1 | exact X.2.2.2.2.2.2.2.2.2.2.2.1 | exact X.2.2.2.2.2.2.2.2.2.2.2.2.2.1 | exact X.2.2.2.2.2.2.2.2.2.2.2.2.2.2.1 | exact X.2.2.2.2.2.2.2.2.2.2.2.2.2.2.2) rfl ?_
  refine j_iload_n dX5_fits_23 rfl rfl ?_
  refine j_aaldL 3 8 2 2 dX5_fits_24 (by first | exact X.1 | exact X.2.1 | exact X.2.2.2.1 | exact X.2.2.2.2.1 | exact X.2.2.2.2.2.2.1.o | exact X.2.2.2.2.2.2.1.c | exact X.2.2.2.2.2.2.1.i | exact X.2.2.2.2.2.2.1.p | exact X.2.2.2.2.2.2.1.d | exact X.2.2.2.2.2.2.2.1.o | exact X.2.2.2.2.2.2.2.2.1 | exact X.2.2.2.2.2.2.2.2.2.1 | exact X.2.2.2.2.2.2.2.2.2.2.2.1 | exact X.2.2.2.2.2.2.2.2.2.2.2.2.2.1 | exact X.2.2.2.2.2.2.2.2.2.2.2.2.2.2.1 | exact X.2.2.2.2.2.2.2.2.2.2.2.2.2.2.2) (by decide) rfl hk (by decide) ?_
  refine j_astore dX5_fits_25 (Nat.le_of_ble_eq_true rfl) rfl ?_
  refine j_aload dX5_fits_27 rfl ?_
  refine j_callV (c_isMissingR (X.2.2.1 k hk)) dX5_fits_29 rfl mv_X5_71 (X.2.2.1 k hk).o rfl ⟨(Nat.le_of_ble_eq_true rfl), (Nat.le_of_ble_eq_true rfl)⟩ ⟨(Nat.le_of_ble_eq_true rfl), (Nat.le_of_ble_eq_true rfl)⟩ (Nat.le_of_ble_eq_true rfl) ?_
  refine j_top (nI 1) (if_pos hl) ?_
  refine j_if_eq 41 dX5_fits_32 (by decide) (fun h => absurd h (by decide)) (fun _ => ?_)
  refine j_aload_n dX5_fits_35 rfl rfl ?_
  refine j_iconst (nI 1) dX5_fits_36 rfl ?_
  refine j_callV (c_found X (nI 1)) dX5_fits_37 rfl mv_X5_60 (by first | exact X.1 | exact X.2.1 | exact X.2.2.2.1 | exact X.2.2.2.2.1 | exact X.2.2.2.2.2.2.1.o | exact X.2.2.2.2.2.2.1.c | exact X.2.2.2.2.2.2.1.i | exact X.2.2.2.2.2.2.1.p | exact X.2.2.2.2.2.2.1.d | exact X.2.2.2.2.2.2.2.1.o | exact X.2.2.2.2.2.2.2.2.1 | exact X.2.2.2.2.2.2.2.2.2.1 | exact X.2.2.2.2.2.2.2.2.2.2.2.1 | exact X.2.2.2.2.2.2.2.2.2.2.2.2.2.1 | exact X.2.2.2.2.2.2.2.2.2.2.2.2.2.2.1 | exact X.2.2.2.2.2.2.2.2.2.2.2.2.2.2.2) rfl ⟨(Nat.le_of_ble_eq_true rfl), (Nat.le_of_ble_eq_true rfl)⟩ ⟨(Nat.le_of_ble_eq_true rfl), (Nat.le_of_ble_eq_true rfl)⟩ (Nat.le_of_ble_eq_true rfl) ?_
  exact j_iret rfl dX5_fits_40 rfl rfl (Nat.le_of_ble_eq_true rfl) (Nat.le_of_ble_eq_true rfl)
theorem x_fits_place (X : XR σ lf fd rl rn ri tp rd dd d df nx kp da di tr bo ne) {k m : Nat} (i : Int32) (hk : k < 8) (hm : m ≤ 3) (hl : ¬ rl k = -1) (hr : rngI i (nI 6) (rn k) = nI 0) : Ct G yX5_fits cX5_fits 5 (some .int) 3 0 0 z σ [.ref 0, .int (nI k), .int i, .int (nI m)] (some (.int (-1000010 - nI 2))) z (ups σ 0 (xO lf (nI 2))) := by
  refine Ct.ofJ RX5 rfl [some (.ref 0), some (.int (nI k)), some (.int i), some (.int (nI m)), none] rfl (by decide) (by simp [Value.category]) ?_
  refine j_iload_n dX5_fits_0 rfl rfl ?_
  refine j_callS (c_isNoRow (nI k)) dX5_fits_1 rfl ms_X5_55 ⟨(Nat.le_of_ble_eq_true rfl), (Nat.le_of_ble_eq_true rfl)⟩ ⟨(Nat.le_of_ble_eq_true rfl), (Nat.le_of_ble_eq_true rfl)⟩ (Nat.le_of_ble_eq_true rfl) ?_
  refine j_top (nI 0) (nrI_k hk) ?_
  refine j_if_ne 16 dX5_fits_4 (by decide) (fun h => absurd rfl h) (fun _ => ?_)
  refine j_iload_n dX5_fits_7 rfl rfl ?_
  refine j_if_lt 16 dX5_fits_8 (by decide) (fun b8 => by exact absurd b8 (nI_pos (by omega))) (fun b8 => ?_)
  refine j_iload_n dX5_fits_11 rfl rfl ?_
  refine j_iconst (nI 3) dX5_fits_12 rfl ?_
  refine j_icmp_leN 19 dX5_fits_13 (by decide) (by omega) (by omega) (fun b13 => ?_) (fun b13 => by exfalso; omega)
  refine j_aload_n dX5_fits_19 rfl rfl ?_
  refine j_getf dX5_fits_20 5 0 rfl (Nat.le_of_ble_eq_true rfl) fl_X5_11 in_5 (by first | exact X.1 | exact X.2.1 | exact X.2.2.2.1 | exact X.2.2.2.2.1 | exact X.2.2.2.2.2.2.1.o | exact X.2.2.2.2.2.2.1.c | exact X.2.2.2.2.2.2.1.i | exact X.2.2.2.2.2.2.1.p | exact X.2.2.2.2.2.2.1.d | exact X.2.2.2.2.2.2.2.1.o | exact X.2.2.2.2.2.2.2.2.1 | exact X.2.2.2.2.2.2.2.2.2.1 | exact X.2.2.2.2.2.2.2.2.2.2.2.1 | exact X.2.2.2.2.2.2.2.2.2.2.2.2.2.1 | exact X.2.2.2.2.2.2.2.2.2.2.2.2.2.2.1 | exact X.2.2.2.2.2.2.2.2.2.2.2.2.2.2.2) rfl ?_
  refine j_iload_n dX5_fits_23 rfl rfl ?_
  refine j_aaldL 3 8 2 2 dX5_fits_24 (by first | exact X.1 | exact X.2.1 | exact X.2.2.2.1 | exact X.2.2.2.2.1 | exact X.2.2.2.2.2.2.1.o | exact X.2.2.2.2.2.2.1.c | exact X.2.2.2.2.2.2.1.i | exact X.2.2.2.2.2.2.1.p | exact X.2.2.2.2.2.2.1.d | exact X.2.2.2.2.2.2.2.1.o | exact X.2.2.2.2.2.2.2.2.1 | exact X.2.2.2.2.2.2.2.2.2.1 | exact X.2.2.2.2.2.2.2.2.2.2.2.1 | exact X.2.2.2.2.2.2.2.2.2.2.2.2.2.1 | exact X.2.2.2.2.2.2.2.2.2.2.2.2.2.2.1 | exact X.2.2.2.2.2.2.2.2.2.2.2.2.2.2.2) (by decide) rfl hk (by decide) ?_
  refine j_astore dX5_fits_25 (Nat.le_of_ble_eq_true rfl) rfl ?_
  refine j_aload dX5_fits_27 rfl ?_
  refine j_callV (c_isMissingR (X.2.2.1 k hk)) dX5_fits_29 rfl mv_X5_71 (X.2.2.1 k hk).o rfl ⟨(Nat.le_of_ble_eq_true rfl), (Nat.le_of_ble_eq_true rfl)⟩ ⟨(Nat.le_of_ble_eq_true rfl), (Nat.le_of_ble_eq_true rfl)⟩ (Nat.le_of_ble_eq_true rfl) ?_
  refine j_top (nI 0) (if_neg hl) ?_
  refine j_if_eq 41 dX5_fits_32 (by decide) (fun _ => ?_) (fun h => absurd rfl h)
  refine j_aload dX5_fits_41 rfl ?_
  refine j_iload_n dX5_fits_43 rfl rfl ?_
  refine j_bipush (nI 6) dX5_fits_44 rfl ?_
  refine j_callV (c_hasRangeR (X.2.2.1 k hk) i (nI 6)) dX5_fits_46 rfl mv_X5_75 (X.2.2.1 k hk).o rfl ⟨(Nat.le_of_ble_eq_true rfl), (Nat.le_of_ble_eq_true rfl)⟩ ⟨(Nat.le_of_ble_eq_true rfl), (Nat.le_of_ble_eq_true rfl)⟩ (Nat.le_of_ble_eq_true rfl) ?_
  refine j_top (nI 0) hr ?_
  refine j_if_ne 58 dX5_fits_49 (by decide) (fun h => absurd rfl h) (fun _ => ?_)
  refine j_aload_n dX5_fits_52 rfl rfl ?_
  refine j_iconst (nI 2) dX5_fits_53 rfl ?_
  refine j_callV (c_found X (nI 2)) dX5_fits_54 rfl mv_X5_60 (by first | exact X.1 | exact X.2.1 | exact X.2.2.2.1 | exact X.2.2.2.2.1 | exact X.2.2.2.2.2.2.1.o | exact X.2.2.2.2.2.2.1.c | exact X.2.2.2.2.2.2.1.i | exact X.2.2.2.2.2.2.1.p | exact X.2.2.2.2.2.2.1.d | exact X.2.2.2.2.2.2.2.1.o | exact X.2.2.2.2.2.2.2.2.1 | exact X.2.2.2.2.2.2.2.2.2.1 | exact X.2.2.2.2.2.2.2.2.2.2.2.1 | exact X.2.2.2.2.2.2.2.2.2.2.2.2.2.1 | exact X.2.2.2.2.2.2.2.2.2.2.2.2.2.2.1 | exact X.2.2.2.2.2.2.2.2.2.2.2.2.2.2.2) rfl ⟨(Nat.le_of_ble_eq_true rfl), (Nat.le_of_ble_eq_true rfl)⟩ ⟨(Nat.le_of_ble_eq_true rfl), (Nat.le_of_ble_eq_true rfl)⟩ (Nat.le_of_ble_eq_true rfl) ?_
  exact j_iret rfl dX5_fits_57 rfl rfl (Nat.le_of_ble_eq_true rfl) (Nat.le_of_ble_eq_true rfl)
theorem x_fits_item (X : XR σ lf fd rl rn ri tp rd dd d df nx kp da di tr bo ne) {k m j : Nat} (hk : k < 8) (hm : m ≤ 3) (hl : ¬ rl k = -1) (hr : rngI (nI j) (nI 6) (rn k) = nI 1) (hj : j + 6 ≤ 40) (h : ∃ q, q < 3 ∧ ¬ okI (ri k (j + q)) (ri k (j + 3 + q))) : Ct G yX5_fits cX5_fits 5 (some .int) 3 0 0 z σ [.ref 0, .int (nI k), .int (nI j), .int (nI m)] (some (.int (-1000001))) z σ := by
  refine Ct.ofJ RX5 rfl [some (.ref 0), some (.int (nI k)), some (.int (nI j)), some (.int (nI m)), none] rfl (by decide) (by simp [Value.category]) ?_
  refine j_iload_n dX5_fits_0 rfl rfl ?_
  refine j_callS (c_isNoRow (nI k)) dX5_fits_1 rfl ms_X5_55 ⟨(Nat.le_of_ble_eq_true rfl), (Nat.le_of_ble_eq_true rfl)⟩ ⟨(Nat.le_of_ble_eq_true rfl), (Nat.le_of_ble_eq_true rfl)⟩ (Nat.le_of_ble_eq_true rfl) ?_
  refine j_top (nI 0) (nrI_k hk) ?_
  refine j_if_ne 16 dX5_fits_4 (by decide) (fun h => absurd rfl h) (fun _ => ?_)
  refine j_iload_n dX5_fits_7 rfl rfl ?_
  refine j_if_lt 16 dX5_fits_8 (by decide) (fun b8 => by exact absurd b8 (nI_pos (by omega))) (fun b8 => ?_)
  refine j_iload_n dX5_fits_11 rfl rfl ?_
  refine j_iconst (nI 3) dX5_fits_12 rfl ?_
  refine j_icmp_leN 19 dX5_fits_13 (by decide) (by omega) (by omega) (fun b13 => ?_) (fun b13 => by exfalso; omega)
  refine j_aload_n dX5_fits_19 rfl rfl ?_
  refine j_getf dX5_fits_20 5 0 rfl (Nat.le_of_ble_eq_true rfl) fl_X5_11 in_5 (by first | exact X.1 | exact X.2.1 | exact X.2.2.2.1 | exact X.2.2.2.2.1 | exact X.2.2.2.2.2.2.1.o | exact X.2.2.2.2.2.2.1.c | exact X.2.2.2.2.2.2.1.i | exact X.2.2.2.2.2.2.1.p | exact X.2.2.2.2.2.2.1.d | exact X.2.2.2.2.2.2.2.1.o | exact X.2.2.2.2.2.2.2.2.1 | exact X.2.2.2.2.2.2.2.2.2.1 | exact X.2.2.2.2.2.2.2.2.2.2.2.1 | exact X.2.2.2.2.2.2.2.2.2.2.2.2.2.1 | exact X.2.2.2.2.2.2.2.2.2.2.2.2.2.2.1 | exact X.2.2.2.2.2.2.2.2.2.2.2.2.2.2.2) rfl ?_
  refine j_iload_n dX5_fits_23 rfl rfl ?_
  refine j_aaldL 3 8 2 2 dX5_fits_24 (by first | exact X.1 | exact X.2.1 | exact X.2.2.2.1 | exact X.2.2.2.2.1 | exact X.2.2.2.2.2.2.1.o | exact X.2.2.2.2.2.2.1.c | exact X.2.2.2.2.2.2.1.i | exact X.2.2.2.2.2.2.1.p | exact X.2.2.2.2.2.2.1.d | exact X.2.2.2.2.2.2.2.1.o | exact X.2.2.2.2.2.2.2.2.1 | exact X.2.2.2.2.2.2.2.2.2.1 | exact X.2.2.2.2.2.2.2.2.2.2.2.1 | exact X.2.2.2.2.2.2.2.2.2.2.2.2.2.1 | exact X.2.2.2.2.2.2.2.2.2.2.2.2.2.2.1 | exact X.2.2.2.2.2.2.2.2.2.2.2.2.2.2.2) (by decide) rfl hk (by decide) ?_
  refine j_astore dX5_fits_25 (Nat.le_of_ble_eq_true rfl) rfl ?_
  refine j_aload dX5_fits_27 rfl ?_
  refine j_callV (c_isMissingR (X.2.2.1 k hk)) dX5_fits_29 rfl mv_X5_71 (X.2.2.1 k hk).o rfl ⟨(Nat.le_of_ble_eq_true rfl), (Nat.le_of_ble_eq_true rfl)⟩ ⟨(Nat.le_of_ble_eq_true rfl), (Nat.le_of_ble_eq_true rfl)⟩ (Nat.le_of_ble_eq_true rfl) ?_
  refine j_top (nI 0) (if_neg hl) ?_
  refine j_if_eq 41 dX5_fits_32 (by decide) (fun _ => ?_) (fun h => absurd rfl h)
  refine j_aload dX5_fits_41 rfl ?_
  refine j_iload_n dX5_fits_43 rfl rfl ?_
  refine j_bipush (nI 6) dX5_fits_44 rfl ?_
  refine j_callV (c_hasRangeR (X.2.2.1 k hk) (nI j) (nI 6)) dX5_fits_46 rfl mv_X5_75 (X.2.2.1 k hk).o rfl ⟨(Nat.le_of_ble_eq_true rfl), (Nat.le_of_ble_eq_true rfl)⟩ ⟨(Nat.le_of_ble_eq_true rfl), (Nat.le_of_ble_eq_true rfl)⟩ (Nat.le_of_ble_eq_true rfl) ?_
  refine j_top (nI 1) hr ?_
  refine j_if_ne 58 dX5_fits_49 (by decide) (fun _ => ?_) (fun h => absurd h (by decide))
  refine j_aload dX5_fits_58 rfl ?_
  refine j_getf dX5_fits_60 3 0 rfl (Nat.le_of_ble_eq_true rfl) fl_X5_87 in_3 (X.2.2.1 k hk).o rfl ?_
  refine j_iload_n dX5_fits_63 rfl rfl ?_
  refine j_callS (c_san_no (X.2.2.1 k hk).i hj h) dX5_fits_64 rfl ms_X5_202 ⟨(Nat.le_of_ble_eq_true rfl), (Nat.le_of_ble_eq_true rfl)⟩ ⟨(Nat.le_of_ble_eq_true rfl), (Nat.le_of_ble_eq_true rfl)⟩ (Nat.le_of_ble_eq_true rfl) ?_
  refine j_top (nI 0) rfl ?_
  refine j_if_ne 73 dX5_fits_67 (by decide) (fun h => absurd rfl h) (fun _ => ?_)
  refine j_ldc (-1000001) dX5_fits_70 kc_X5_59 ?_
  exact j_iret rfl dX5_fits_72 rfl rfl (Nat.le_of_ble_eq_true rfl) (Nat.le_of_ble_eq_true rfl)
theorem x_fits_ok (X : XR σ lf fd rl rn ri tp rd dd d df nx kp da di tr bo ne) {k m j : Nat} (hk : k < 8) (hm : m ≤ 3) (hl : ¬ rl k = -1) (hr : rngI (nI j) (nI 6) (rn k) = nI 1) (hj : j + 6 ≤ 40) (h : ∀ q, q < 3 → okI (ri k (j + q)) (ri k (j + 3 + q))) : Ct G yX5_fits cX5_fits 5 (some .int) 3 0 0 z σ [.ref 0, .int (nI k), .int (nI j), .int (nI m)] (some (.int (nI (ftA (ri k) j m (m + 1))))) z (ups σ 0 (xO lf (nI 0))) := by
  refine Ct.ofJ RX5 rfl [some (.ref 0), some (.int (nI k)), some (.int (nI j)), some (.int (nI m)), none] rfl (by decide) (by simp [Value.category]) ?_
  refine j_iload_n dX5_fits_0 rfl rfl ?_
  refine j_callS (c_isNoRow (nI k)) dX5_fits_1 rfl ms_X5_55 ⟨(Nat.le_of_ble_eq_true rfl), (Nat.le_of_ble_eq_true rfl)⟩ ⟨(Nat.le_of_ble_eq_true rfl), (Nat.le_of_ble_eq_true rfl)⟩ (Nat.le_of_ble_eq_true rfl) ?_
  refine j_top (nI 0) (nrI_k hk) ?_
  refine j_if_ne 16 dX5_fits_4 (by decide) (fun h => absurd rfl h) (fun _ => ?_)
  refine j_iload_n dX5_fits_7 rfl rfl ?_
  refine j_if_lt 16 dX5_fits_8 (by decide) (fun b8 => by exact absurd b8 (nI_pos (by omega))) (fun b8 => ?_)
  refine j_iload_n dX5_fits_11 rfl rfl ?_
  refine j_iconst (nI 3) dX5_fits_12 rfl ?_
  refine j_icmp_leN 19 dX5_fits_13 (by decide) (by omega) (by omega) (fun b13 => ?_) (fun b13 => by exfalso; omega)
  refine j_aload_n dX5_fits_19 rfl rfl ?_
  refine j_getf dX5_fits_20 5 0 rfl (Nat.le_of_ble_eq_true rfl) fl_X5_11 in_5 (by first | exact X.1 | exact X.2.1 | exact X.2.2.2.1 | exact X.2.2.2.2.1 | exact X.2.2.2.2.2.2.1.o | exact X.2.2.2.2.2.2.1.c | exact X.2.2.2.2.2.2.1.i | exact X.2.2.2.2.2.2.1.p | exact X.2.2.2.2.2.2.1.d | exact X.2.2.2.2.2.2.2.1.o | exact X.2.2.2.2.2.2.2.2.1 | exact X.2.2.2.2.2.2.2.2.2.1 | exact X.2.2.2.2.2.2.2.2.2.2.2.1 | exact X.2.2.2.2.2.2.2.2.2.2.2.2.2.1 | exact X.2.2.2.2.2.2.2.2.2.2.2.2.2.2.1 | exact X.2.2.2.2.2.2.2.2.2.2.2.2.2.2.2) rfl ?_
  refine j_iload_n dX5_fits_23 rfl rfl ?_
  refine j_aaldL 3 8 2 2 dX5_fits_24 (by first | exact X.1 | exact X.2.1 | exact X.2.2.2.1 | exact X.2.2.2.2.1 | exact X.2.2.2.2.2.2.1.o | exact X.2.2.2.2.2.2.1.c | exact X.2.2.2.2.2.2.1.i | exact X.2.2.2.2.2.2.1.p | exact X.2.2.2.2.2.2.1.d | exact X.2.2.2.2.2.2.2.1.o | exact X.2.2.2.2.2.2.2.2.1 | exact X.2.2.2.2.2.2.2.2.2.1 | exact X.2.2.2.2.2.2.2.2.2.2.2.1 | exact X.2.2.2.2.2.2.2.2.2.2.2.2.2.1 | exact X.2.2.2.2.2.2.2.2.2.2.2.2.2.2.1 | exact X.2.2.2.2.2.2.2.2.2.2.2.2.2.2.2) (by decide) rfl hk (by decide) ?_
  refine j_astore dX5_fits_25 (Nat.le_of_ble_eq_true rfl) rfl ?_
  refine j_aload dX5_fits_27 rfl ?_
  refine j_callV (c_isMissingR (X.2.2.1 k hk)) dX5_fits_29 rfl mv_X5_71 (X.2.2.1 k hk).o rfl ⟨(Nat.le_of_ble_eq_true rfl), (Nat.le_of_ble_eq_true rfl)⟩ ⟨(Nat.le_of_ble_eq_true rfl), (Nat.le_of_ble_eq_true rfl)⟩ (Nat.le_of_ble_eq_true rfl) ?_
  refine j_top (nI 0) (if_neg hl) ?_
  refine j_if_eq 41 dX5_fits_32 (by decide) (fun _ => ?_) (fun h => absurd rfl h)
  refine j_aload dX5_fits_41 rfl ?_
  refine j_iload_n dX5_fits_43 rfl rfl ?_
  refine j_bipush (nI 6) dX5_fits_44 rfl ?_
  refine j_callV (c_hasRangeR (X.2.2.1 k hk) (nI j) (nI 6)) dX5_fits_46 rfl mv_X5_75 (X.2.2.1 k hk).o rfl ⟨(Nat.le_of_ble_eq_true rfl), (Nat.le_of_ble_eq_true rfl)⟩ ⟨(Nat.le_of_ble_eq_true rfl), (Nat.le_of_ble_eq_true rfl)⟩ (Nat.le_of_ble_eq_true rfl) ?_
  refine j_top (nI 1) hr ?_
  refine j_if_ne 58 dX5_fits_49 (by decide) (fun _ => ?_) (fun h => absurd h (by decide))
  refine j_aload dX5_fits_58 rfl ?_
  refine j_getf dX5_fits_60 3 0 rfl (Nat.le_of_ble_eq_true rfl) fl_X5_87 in_3 (X.2.2.1 k hk).o rfl ?_
  refine j_iload_n dX5_fits_63 rfl rfl ?_
  refine j_callS (c_san_yes (X.2.2.1 k hk).i hj h) dX5_fits_64 rfl ms_X5_202 ⟨(Nat.le_of_ble_eq_true rfl), (Nat.le_of_ble_eq_true rfl)⟩ ⟨(Nat.le_of_ble_eq_true rfl), (Nat.le_of_ble_eq_true rfl)⟩ (Nat.le_of_ble_eq_true rfl) ?_
  refine j_top (nI 1) rfl ?_
  refine j_if_ne 73 dX5_fits_67 (by decide) (fun _ => ?_) (fun h => absurd h (by decide))
  refine j_aload_n dX5_fits_73 rfl rfl ?_
  refine j_aload dX5_fits_74 rfl ?_
  refine j_getf dX5_fits_76 3 0 rfl (Nat.le_of_ble_eq_true rfl) fl_X5_87 in_3 (X.2.2.1 k hk).o rfl ?_
  refine j_iload_n dX5_fits_79 rfl rfl ?_
  refine j_iload_n dX5_fits_80 rfl rfl ?_
  refine j_callS (c_waysToFit (X.2.2.1 k hk).i hj hm) dX5_fits_81 rfl ms_X5_206 ⟨(Nat.le_of_ble_eq_true rfl), (Nat.le_of_ble_eq_true rfl)⟩ ⟨(Nat.le_of_ble_eq_true rfl), (Nat.le_of_ble_eq_true rfl)⟩ (Nat.le_of_ble_eq_true rfl) ?_
  refine j_callV (c_foundNothing X _) dX5_fits_84 rfl mv_X5_68 (by first | exact X.1 | exact X.2.1 | exact X.2.2.2.1 | exact X.2.2.2.2.1 | exact X.2.2.2.2.2.2.1.o | exact X.2.2.2.2.2.2.1.c | exact X.2.2.2.2.2.2.1.i | exact X.2.2.2.2.2.2.1.p | exact X.2.2.2.2.2.2.1.d | exact X.2.2.2.2.2.2.2.1.o | exact X.2.2.2.2.2.2.2.2.1 | exact X.2.2.2.2.2.2.2.2.2.1 | exact X.2.2.2.2.2.2.2.2.2.2.2.1 | exact X.2.2.2.2.2.2.2.2.2.2.2.2.2.1 | exact X.2.2.2.2.2.2.2.2.2.2.2.2.2.2.1 | exact X.2.2.2.2.2.2.2.2.2.2.2.2.2.2.2) rfl ⟨(Nat.le_of_ble_eq_true rfl), (Nat.le_of_ble_eq_true rfl)⟩ ⟨(Nat.le_of_ble_eq_true rfl), (Nat.le_of_ble_eq_true rfl)⟩ (Nat.le_of_ble_eq_true rfl) ?_
  exact j_iret rfl dX5_fits_87 rfl rfl (Nat.le_of_ble_eq_true rfl) (Nat.le_of_ble_eq_true rfl)
theorem x_feed_bad (w : Int64) (n : Int32) (h : n < nI 1 ∨ nI 8 < n) : Ct G yX5_feed cX5_feed 5 (some .int) 1 0 0 z σ [.ref 0, .long w, .int n] (some (.int (-1000001))) z σ := by
  refine Ct.ofJ RX5 rfl [some (.ref 0), some (.long w), none, some (.int n), none] rfl (by decide) (by simp [Value.category]) ?_
  refine j_iload_n dX5_feed_0 rfl rfl ?_
  refine j_iconst (nI 1) dX5_feed_1 rfl ?_
  refine j_icmp_lt 11 dX5_feed_2 (by decide) (fun b2 => ?_) (fun b2 => ?_)
  · refine j_ldc (-1000001) dX5_feed_11 kc_X5_59 ?_
    exact j_iret rfl dX5_feed_13 rfl rfl (Nat.le_of_ble_eq_true rfl) (Nat.le_of_ble_eq_true rfl)
  · refine j_iload_n dX5_feed_5 rfl rfl ?_
    refine j_bipush (nI 8) dX5_feed_6 rfl ?_
    refine j_icmp_le 14 dX5_feed_8 (by decide) (fun b8 => ?_) (fun b8 => ?_)
    · exact absurd h (fun q => q.elim b2 (fun w => absurd b8 (Int32.not_le.mpr w)))
    · refine j_ldc (-1000001) dX5_feed_11 kc_X5_59 ?_
      exact j_iret rfl dX5_feed_13 rfl rfl (Nat.le_of_ble_eq_true rfl) (Nat.le_of_ble_eq_true rfl)
theorem x_feed_full (X : XR σ lf fd rl rn ri tp rd dd d df nx kp da di tr bo ne) {m len : Nat} (w : Int64) (hl : rd 0 = nI len) (h1 : 1 ≤ m) (h2 : m ≤ 8) (hlen : len ≤ 400) (h : 400 < len + m) : Ct G yX5_feed cX5_feed 5 (some .int) 1 0 0 z σ [.ref 0, .long w, .int (nI m)] (some (.int (-1000003))) z σ := by
  refine Ct.ofJ RX5 rfl [some (.ref 0), some (.long w), none, some (.int (nI m)), none] rfl (by decide) (by simp [Value.category]) ?_
  refine j_iload_n dX5_feed_0 rfl rfl ?_
  refine j_iconst (nI 1) dX5_feed_1 rfl ?_
  refine j_icmp_ltN 11 dX5_feed_2 (by decide) (by omega) (by omega) (fun b2 => by exfalso; omega) (fun b2 => ?_)
  refine j_iload_n dX5_feed_5 rfl rfl ?_
  refine j_bipush (nI 8) dX5_feed_6 rfl ?_
  refine j_icmp_leN 14 dX5_feed_8 (by decide) (by omega) (by omega) (fun b8 => ?_) (fun b8 => by exfalso; omega)
  refine j_aload_n dX5_feed_14 rfl rfl ?_
  refine j_getf dX5_feed_15 5 1 rfl (Nat.le_of_ble_eq_true rfl) fl_X5_19 in_5 (by first | exact X.1 | exact X.2.1 | exact X.2.2.2.1 | exact X.2.2.2.2.1 | exact X.2.2.2.2.2.2.1.o | exact X.2.2.2.2.2.2.1.c | exact X.2.2.2.2.2.2.1.i | exact X.2.2.2.2.2.2.1.p | exact X.2.2.2.2.2.2.1.d | exact X.2.2.2.2.2.2.2.1.o | exact X.2.2.2.2.2.2.2.2.1 | exact X.2.2.2.2.2.2.2.2.2.1 | exact X.2.2.2.2.2.2.2.2.2.2.2.1 | exact X.2.2.2.2.2.2.2.2.2.2.2.2.2.1 | exact X.2.2.2.2.2.2.2.2.2.2.2.2.2.2.1 | exact X.2.2.2.2.2.2.2.2.2.2.2.2.2.2.2) rfl ?_
  refine j_getf dX5_feed_18 2 2 rfl (Nat.le_of_ble_eq_true rfl) fl_X5_102 in_2 (by first | exact X.1 | exact X.2.1 | exact X.2.2.2.1 | exact X.2.2.2.2.1 | exact X.2.2.2.2.2.2.1.o | exact X.2.2.2.2.2.2.1.c | exact X.2.2.2.2.2.2.1.i | exact X.2.2.2.2.2.2.1.p | exact X.2.2.2.2.2.2.1.d | exact X.2.2.2.2.2.2.2.1.o | exact X.2.2.2.2.2.2.2.2.1 | exact X.2.2.2.2.2.2.2.2.2.1 | exact X.2.2.2.2.2.2.2.2.2.2.2.1 | exact X.2.2.2.2.2.2.2.2.2.2.2.2.2.1 | exact X.2.2.2.2.2.2.2.2.2.2.2.2.2.2.1 | exact X.2.2.2.2.2.2.2.2.2.2.2.2.2.2.2) rfl ?_
  refine j_top (nI len) hl ?_
  refine j_iload_n dX5_feed_21 rfl rfl ?_
  first | refine j_iaddN dX5_feed_22 ?_ | refine j_iadd dX5_feed_22 ?_
  refine j_sipush (nI 400) dX5_feed_23 rfl ?_
  refine j_icmp_leN 32 dX5_feed_26 (by decide) (by omega) (by omega) (fun b26 => by exfalso; omega) (fun b26 => ?_)
  refine j_ldc (-1000003) dX5_feed_29 kc_X5_103 ?_
  exact j_iret rfl dX5_feed_31 rfl rfl (Nat.le_of_ble_eq_true rfl) (Nat.le_of_ble_eq_true rfl)
theorem x_feed_ok (X : XR σ lf fd rl rn ri tp rd dd d df nx kp da di tr bo ne) {m len : Nat} (w : Int64) (hl : rd 0 = nI len) (h1 : 1 ≤ m) (h2 : m ≤ 8) (h : len + m ≤ 400) : Ct G yX5_feed cX5_feed 5 (some .int) 1 0 0 z σ [.ref 0, .long w, .int (nI m)] (some (.int (nI (len + m)))) z (fdH σ (fdT w m len tp m) rd (nI (len + m))) := by
  refine Ct.ofJ RX5 rfl [some (.ref 0), some (.long w), none, some (.int (nI m)), none] rfl (by decide) (by simp [Value.category]) ?_
  refine j_iload_n dX5_feed_0 rfl rfl ?_
  refine j_iconst (nI 1) dX5_feed_1 rfl ?_
  refine j_icmp_ltN 11 dX5_feed_2 (by decide) (by omega) (by omega) (fun b2 => by exfalso; omega) (fun b2 => ?_)
  refine j_iload_n dX5_feed_5 rfl rfl ?_
  refine j_bipush (nI 8) dX5_feed_6 rfl ?_
  refine j_icmp_leN 14 dX5_feed_8 (by decide) (by omega) (by omega) (fun b8 => ?_) (fun b8 => by exfalso; omega)
  refine j_aload_n dX5_feed_14 rfl rfl ?_
  refine j_getf dX5_feed_15 5 1 rfl (Nat.le_of_ble_eq_true rfl) fl_X5_19 in_5 (by first | exact X.1 | exact X.2.1 | exact X.2.2.2.1 | exact X.2.2.2.2.1 | exact X.2.2.2.2.2.2.1.o | exact X.2.2.2.2.2.2.1.c | exact X.2.2.2.2.2.2.1.i | exact X.2.2.2.2.2.2.1.p | exact X.2.2.2.2.2.2.1.d | exact X.2.2.2.2.2.2.2.1.o | exact X.2.2.2.2.2.2.2.2.1 | exact X.2.2.2.2.2.2.2.2.2.1 | exact X.2.2.2.2.2.2.2.2.2.2.2.1 | exact X.2.2.2.2.2.2.2.2.2.2.2.2.2.1 | exact X.2.2.2.2.2.2.2.2.2.2.2.2.2.2.1 | exact X.2.2.2.2.2.2.2.2.2.2.2.2.2.2.2) rfl ?_
  refine j_getf dX5_feed_18 2 2 rfl (Nat.le_of_ble_eq_true rfl) fl_X5_102 in_2 (by first | exact X.1 | exact X.2.1 | exact X.2.2.2.1 | exact X.2.2.2.2.1 | exact X.2.2.2.2.2.2.1.o | exact X.2.2.2.2.2.2.1.c | exact X.2.2.2.2.2.2.1.i | exact X.2.2.2.2.2.2.1.p | exact X.2.2.2.2.2.2.1.d | exact X.2.2.2.2.2.2.2.1.o | exact X.2.2.2.2.2.2.2.2.1 | exact X.2.2.2.2.2.2.2.2.2.1 | exact X.2.2.2.2.2.2.2.2.2.2.2.1 | exact X.2.2.2.2.2.2.2.2.2.2.2.2.2.1 | exact X.2.2.2.2.2.2.2.2.2.2.2.2.2.2.1 | exact X.2.2.2.2.2.2.2.2.2.2.2.2.2.2.2) rfl ?_
  refine j_top (nI len) hl ?_
  refine j_iload_n dX5_feed_21 rfl rfl ?_
  first | refine j_iaddN dX5_feed_22 ?_ | refine j_iadd dX5_feed_22 ?_
  refine j_sipush (nI 400) dX5_feed_23 rfl ?_
  refine j_icmp_leN 32 dX5_feed_26 (by decide) (by omega) (by omega) (fun b26 => ?_) (fun b26 => by exfalso; omega)
  refine j_iload_n dX5_feed_32 rfl rfl ?_
  refine j_iconst (nI 1) dX5_feed_33 rfl ?_
  refine j_isubN dX5_feed_34 (by omega) ?_
  refine j_istore dX5_feed_35 (Nat.le_of_ble_eq_true rfl) rfl ?_
  suffices H : ∀ (kk k : Nat) (x : Int32), k ≤ m → m < k + kk → (k < m ∧ x = nI (m - 1 - k)) ∨ (k = m ∧ x = -1) → J G RX5 cX5_feed 5 (some .int) (TQ G 1 0 0 (some (.int (nI (len + m)))) z (fdH σ (fdT w m len tp m) rd (nI (len + m)))) z (fdH σ (fdT w m len tp k) rd (nI (len + k))) 0 0 37 [some (.ref 0), some (.long w), none, some (.int (nI m)), some (.int x)] [] from (by have H0 := H (m + 1) 0 (nI (m - 1)) (by omega) (by omega) (Or.inl ⟨by omega, by rw [Nat.sub_zero]⟩); rw [show fdH σ (fdT w m len tp 0) rd (nI (len + 0)) = σ from by (unfold fdH; rw [show ups σ 19 (.inl (1, 400, fdT w m len tp 0)) = σ from ups_self X.2.2.2.2.1]; exact ups_self (by rw [X.2.2.2.1]; show some (xR rd) = some (xR (upd rd 0 (nI len))); rw [← hl]; rfl))] at H0; exact H0)
  intro kk
  induction kk with
  | zero => intro k x h3 h4; exact absurd h4 (by omega)
  | succ kk ih =>
    intro k x h3 h4 hx
    have X := (X.tape (fdT w m len tp k)).rdr (upd rd 0 (nI (len + k)))
    by_cases hk : k < m
    · obtain rfl : x = nI (m - 1 - k) := hx.elim (fun q => q.2) (fun q => absurd q.1 (by omega))
      refine j_iload dX5_feed_37 rfl ?_
      refine j_if_lt 85 dX5_feed_39 (by decide) (fun b39 => by exact absurd b39 (nI_pos (by omega))) (fun b39 => ?_)
      refine j_aload_n dX5_feed_42 rfl rfl ?_
      refine j_getf dX5_feed_43 5 1 rfl (Nat.le_of_ble_eq_true rfl) fl_X5_19 in_5 (by first | exact X.1 | exact X.2.1 | exact X.2.2.2.1 | exact X.2.2.2.2.1 | exact X.2.2.2.2.2.2.1.o | exact X.2.2.2.2.2.2.1.c | exact X.2.2.2.2.2.2.1.i | exact X.2.2.2.2.2.2.1.p | exact X.2.2.2.2.2.2.1.d | exact X.2.2.2.2.2.2.2.1.o | exact X.2.2.2.2.2.2.2.2.1 | exact X.2.2.2.2.2.2.2.2.2.1 | exact X.2.2.2.2.2.2.2.2.2.2.2.1 | exact X.2.2.2.2.2.2.2.2.2.2.2.2.2.1 | exact X.2.2.2.2.2.2.2.2.2.2.2.2.2.2.1 | exact X.2.2.2.2.2.2.2.2.2.2.2.2.2.2.2) rfl ?_
      refine j_getf dX5_feed_46 2 0 rfl (Nat.le_of_ble_eq_true rfl) fl_X5_104 in_2 (by first | exact X.1 | exact X.2.1 | exact X.2.2.2.1 | exact X.2.2.2.2.1 | exact X.2.2.2.2.2.2.1.o | exact X.2.2.2.2.2.2.1.c | exact X.2.2.2.2.2.2.1.i | exact X.2.2.2.2.2.2.1.p | exact X.2.2.2.2.2.2.1.d | exact X.2.2.2.2.2.2.2.1.o | exact X.2.2.2.2.2.2.2.2.1 | exact X.2.2.2.2.2.2.2.2.2.1 | exact X.2.2.2.2.2.2.2.2.2.2.2.1 | exact X.2.2.2.2.2.2.2.2.2.2.2.2.2.1 | exact X.2.2.2.2.2.2.2.2.2.2.2.2.2.2.1 | exact X.2.2.2.2.2.2.2.2.2.2.2.2.2.2.2) rfl ?_
      refine j_aload_n dX5_feed_49 rfl rfl ?_
      refine j_getf dX5_feed_50 5 1 rfl (Nat.le_of_ble_eq_true rfl) fl_X5_19 in_5 (by first | exact X.1 | exact X.2.1 | exact X.2.2.2.1 | exact X.2.2.2.2.1 | exact X.2.2.2.2.2.2.1.o | exact X.2.2.2.2.2.2.1.c | exact X.2.2.2.2.2.2.1.i | exact X.2.2.2.2.2.2.1.p | exact X.2.2.2.2.2.2.1.d | exact X.2.2.2.2.2.2.2.1.o | exact X.2.2.2.2.2.2.2.2.1 | exact X.2.2.2.2.2.2.2.2.2.1 | exact X.2.2.2.2.2.2.2.2.2.2.2.1 | exact X.2.2.2.2.2.2.2.2.2.2.2.2.2.1 | exact X.2.2.2.2.2.2.2.2.2.2.2.2.2.2.1 | exact X.2.2.2.2.2.2.2.2.2.2.2.2.2.2.2) rfl ?_
      refine j_getf dX5_feed_53 2 2 rfl (Nat.le_of_ble_eq_true rfl) fl_X5_102 in_2 (by first | exact X.1 | exact X.2.1 | exact X.2.2.2.1 | exact X.2.2.2.2.1 | exact X.2.2.2.2.2.2.1.o | exact X.2.2.2.2.2.2.1.c | exact X.2.2.2.2.2.2.1.i | exact X.2.2.2.2.2.2.1.p | exact X.2.2.2.2.2.2.1.d | exact X.2.2.2.2.2.2.2.1.o | exact X.2.2.2.2.2.2.2.2.1 | exact X.2.2.2.2.2.2.2.2.2.1 | exact X.2.2.2.2.2.2.2.2.2.2.2.1 | exact X.2.2.2.2.2.2.2.2.2.2.2.2.2.1 | exact X.2.2.2.2.2.2.2.2.2.2.2.2.2.2.1 | exact X.2.2.2.2.2.2.2.2.2.2.2.2.2.2.2) rfl ?_
      refine j_top (nI (len + k)) rfl ?_
      refine j_lload_n dX5_feed_56 rfl rfl ?_
      refine j_bipush (nI 8) dX5_feed_57 rfl ?_
      refine j_iload dX5_feed_59 rfl ?_
      first | refine j_imulN dX5_feed_61 ?_ | refine j_imul dX5_feed_61 ?_
      refine j_lshr dX5_feed_62 ?_
      refine j_l2i dX5_feed_63 ?_
      refine j_i2b dX5_feed_64 ?_
      refine j_bast dX5_feed_65 (by first | exact X.1 | exact X.2.1 | exact X.2.2.2.1 | exact X.2.2.2.2.1 | exact X.2.2.2.2.2.2.1.o | exact X.2.2.2.2.2.2.1.c | exact X.2.2.2.2.2.2.1.i | exact X.2.2.2.2.2.2.1.p | exact X.2.2.2.2.2.2.1.d | exact X.2.2.2.2.2.2.2.1.o | exact X.2.2.2.2.2.2.2.2.1 | exact X.2.2.2.2.2.2.2.2.2.1 | exact X.2.2.2.2.2.2.2.2.2.2.2.1 | exact X.2.2.2.2.2.2.2.2.2.2.2.2.2.1 | exact X.2.2.2.2.2.2.2.2.2.2.2.2.2.2.1 | exact X.2.2.2.2.2.2.2.2.2.2.2.2.2.2.2) rfl (by omega) (by decide) _ rfl ?_
      have X := X.tape (fdT w m len tp (k + 1))
      refine j_aload_n dX5_feed_66 rfl rfl ?_
      refine j_getf dX5_feed_67 5 1 rfl (Nat.le_of_ble_eq_true rfl) fl_X5_19 in_5 (by first | exact X.1 | exact X.2.1 | exact X.2.2.2.1 | exact X.2.2.2.2.1 | exact X.2.2.2.2.2.2.1.o | exact X.2.2.2.2.2.2.1.c | exact X.2.2.2.2.2.2.1.i | exact X.2.2.2.2.2.2.1.p | exact X.2.2.2.2.2.2.1.d | exact X.2.2.2.2.2.2.2.1.o | exact X.2.2.2.2.2.2.2.2.1 | exact X.2.2.2.2.2.2.2.2.2.1 | exact X.2.2.2.2.2.2.2.2.2.2.2.1 | exact X.2.2.2.2.2.2.2.2.2.2.2.2.2.1 | exact X.2.2.2.2.2.2.2.2.2.2.2.2.2.2.1 | exact X.2.2.2.2.2.2.2.2.2.2.2.2.2.2.2) rfl ?_
      refine j_dup dX5_feed_70 rfl ?_
      refine j_getf dX5_feed_71 2 2 rfl (Nat.le_of_ble_eq_true rfl) fl_X5_102 in_2 (by first | exact X.1 | exact X.2.1 | exact X.2.2.2.1 | exact X.2.2.2.2.1 | exact X.2.2.2.2.2.2.1.o | exact X.2.2.2.2.2.2.1.c | exact X.2.2.2.2.2.2.1.i | exact X.2.2.2.2.2.2.1.p | exact X.2.2.2.2.2.2.1.d | exact X.2.2.2.2.2.2.2.1.o | exact X.2.2.2.2.2.2.2.2.1 | exact X.2.2.2.2.2.2.2.2.2.1 | exact X.2.2.2.2.2.2.2.2.2.2.2.1 | exact X.2.2.2.2.2.2.2.2.2.2.2.2.2.1 | exact X.2.2.2.2.2.2.2.2.2.2.2.2.2.2.1 | exact X.2.2.2.2.2.2.2.2.2.2.2.2.2.2.2) rfl ?_
      refine j_top (nI (len + k)) rfl ?_
      refine j_iconst (nI 1) dX5_feed_74 rfl ?_
      first | refine j_iaddN dX5_feed_75 ?_ | refine j_iadd dX5_feed_75 ?_
      refine j_putf dX5_feed_76 2 2 rfl (Nat.le_of_ble_eq_true rfl) fl_X5_102 in_2 tyX2 tyX2_ok nmX2 rfl rfl (by first | exact X.1 | exact X.2.1 | exact X.2.2.2.1 | exact X.2.2.2.2.1 | exact X.2.2.2.2.2.2.1.o | exact X.2.2.2.2.2.2.1.c | exact X.2.2.2.2.2.2.1.i | exact X.2.2.2.2.2.2.1.p | exact X.2.2.2.2.2.2.1.d | exact X.2.2.2.2.2.2.2.1.o | exact X.2.2.2.2.2.2.2.2.1 | exact X.2.2.2.2.2.2.2.2.2.1 | exact X.2.2.2.2.2.2.2.2.2.2.2.1 | exact X.2.2.2.2.2.2.2.2.2.2.2.2.2.1 | exact X.2.2.2.2.2.2.2.2.2.2.2.2.2.2.1 | exact X.2.2.2.2.2.2.2.2.2.2.2.2.2.2.2) (Nat.le_of_ble_eq_true rfl) _ (show _ = fdH σ (fdT w m len tp (k + 1)) rd (nI (len + (k + 1))) from ups4) ?_
      refine j_iinc _ dX5_feed_79 rfl rfl (Nat.le_of_ble_eq_true rfl) rfl ?_
      refine j_goto 37 dX5_feed_82 (by decide) ?_
      refine ih (k + 1) _ (by omega) (by omega) ?_
      by_cases hk2 : k + 1 < m
      · refine Or.inl ⟨hk2, ?_⟩
        rw [show m - 1 - k = (m - 1 - (k + 1)) + 1 by omega, show Int32.ofInt (-1) = (-1 : Int32) from by decide]
        exact pk_m1 _
      · refine Or.inr ⟨by omega, ?_⟩
        rw [show m - 1 - k = 0 by omega]
        decide
    · obtain rfl : k = m := by omega
      obtain rfl : x = -1 := hx.elim (fun q => absurd q.1 (by omega)) (fun q => q.2)
      refine j_iload dX5_feed_37 rfl ?_
      refine j_if_lt 85 dX5_feed_39 (by decide) (fun b39 => ?_) (fun b39 => by exact absurd (by decide) b39)
      refine j_aload_n dX5_feed_85 rfl rfl ?_
      refine j_getf dX5_feed_86 5 1 rfl (Nat.le_of_ble_eq_true rfl) fl_X5_19 in_5 (by first | exact X.1 | exact X.2.1 | exact X.2.2.2.1 | exact X.2.2.2.2.1 | exact X.2.2.2.2.2.2.1.o | exact X.2.2.2.2.2.2.1.c | exact X.2.2.2.2.2.2.1.i | exact X.2.2.2.2.2.2.1.p | exact X.2.2.2.2.2.2.1.d | exact X.2.2.2.2.2.2.2.1.o | exact X.2.2.2.2.2.2.2.2.1 | exact X.2.2.2.2.2.2.2.2.2.1 | exact X.2.2.2.2.2.2.2.2.2.2.2.1 | exact X.2.2.2.2.2.2.2.2.2.2.2.2.2.1 | exact X.2.2.2.2.2.2.2.2.2.2.2.2.2.2.1 | exact X.2.2.2.2.2.2.2.2.2.2.2.2.2.2.2) rfl ?_
      refine j_getf dX5_feed_89 2 2 rfl (Nat.le_of_ble_eq_true rfl) fl_X5_102 in_2 (by first | exact X.1 | exact X.2.1 | exact X.2.2.2.1 | exact X.2.2.2.2.1 | exact X.2.2.2.2.2.2.1.o | exact X.2.2.2.2.2.2.1.c | exact X.2.2.2.2.2.2.1.i | exact X.2.2.2.2.2.2.1.p | exact X.2.2.2.2.2.2.1.d | exact X.2.2.2.2.2.2.2.1.o | exact X.2.2.2.2.2.2.2.2.1 | exact X.2.2.2.2.2.2.2.2.2.1 | exact X.2.2.2.2.2.2.2.2.2.2.2.1 | exact X.2.2.2.2.2.2.2.2.2.2.2.2.2.1 | exact X.2.2.2.2.2.2.2.2.2.2.2.2.2.2.1 | exact X.2.2.2.2.2.2.2.2.2.2.2.2.2.2.2) rfl ?_
      exact j_iret rfl dX5_feed_92 rfl rfl (Nat.le_of_ble_eq_true rfl) (Nat.le_of_ble_eq_true rfl)
end O8

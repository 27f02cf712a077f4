/-! THE LAW: its loop, its start -/
theorem dL_law_0 : decode cL_law 0 = .ok (.new 7, 3) := by decide +kernel
theorem dL_law_3 : decode cL_law 3 = .ok (.dup, 1) := by decide +kernel
theorem dL_law_4 : decode cL_law 4 = .ok (.invokespecial 9, 3) := by decide +kernel
theorem dL_law_7 : decode cL_law 7 = .ok (.astore_n 1, 1) := by decide +kernel
theorem dL_law_8 : decode cL_law 8 = .ok (.new 10, 3) := by decide +kernel
theorem dL_law_11 : decode cL_law 11 = .ok (.dup, 1) := by decide +kernel
theorem dL_law_12 : decode cL_law 12 = .ok (.invokespecial 12, 3) := by decide +kernel
theorem dL_law_15 : decode cL_law 15 = .ok (.astore_n 2, 1) := by decide +kernel
theorem dL_law_16 : decode cL_law 16 = .ok (.iconst 0, 1) := by decide +kernel
theorem dL_law_17 : decode cL_law 17 = .ok (.istore_n 3, 1) := by decide +kernel
theorem dL_law_18 : decode cL_law 18 = .ok (.iload_n 3, 1) := by decide +kernel
theorem dL_law_19 : decode cL_law 19 = .ok (.aload_n 0, 1) := by decide +kernel
theorem dL_law_20 : decode cL_law 20 = .ok (.arraylength, 1) := by decide +kernel
theorem dL_law_21 : decode cL_law 21 = .ok (.bipush 6, 2) := by decide +kernel
theorem dL_law_23 : decode cL_law 23 = .ok (.isub, 1) := by decide +kernel
theorem dL_law_24 : decode cL_law 24 = .ok (.if_icmp .gt 1013, 3) := by decide +kernel
theorem dL_law_27 : decode cL_law 27 = .ok (.aload_n 0, 1) := by decide +kernel
theorem dL_law_28 : decode cL_law 28 = .ok (.iload_n 3, 1) := by decide +kernel
theorem dL_law_29 : decode cL_law 29 = .ok (.iaload, 1) := by decide +kernel
theorem dL_law_30 : decode cL_law 30 = .ok (.bipush 31, 2) := by decide +kernel
theorem dL_law_32 : decode cL_law 32 = .ok (.iand, 1) := by decide +kernel
theorem dL_law_33 : decode cL_law 33 = .ok (.tableswitch 998 0 28 #[131, 174, 217, 280, 303, 366, 379, 392, 435, 478, 511, 544, 567, 580, 613, 656, 679, 702, 725, 758, 771, 804, 827, 850, 873, 906, 939, 962, 985], 131) := by decide +kernel
theorem dL_law_1031 : decode cL_law 1031 = .ok (.iinc 3 6, 3) := by decide +kernel
theorem dL_law_1034 : decode cL_law 1034 = .ok (.goto (-1016), 3) := by decide +kernel
theorem dL_law_1037 : decode cL_law 1037 = .ok (.iconst 1, 1) := by decide +kernel
theorem dL_law_1038 : decode cL_law 1038 = .ok (.ireturn, 1) := by decide +kernel
section LL
variable {G : GG} {b L : Nat} {xs : Nat → Int32}
theorem law_loop (hL : L ≤ 3072) : ∀ (kk i : Nat) (σ : AH), i ≤ L → L < i + kk → IV σ → J G RL cL_law 4 ret (TL G b L xs) 184 σ 184 6624 18 [some (.ref (EXT + 400)), some (.ref 0), some (.ref 171), some (.int (nI i))] [] := by
  intro kk
  induction kk with
  | zero => intro i σ h1 h2; exact absurd h2 (by omega)
  | succ kk ih =>
    intro i σ h1 h2 H
    by_cases hi : i + 6 ≤ L
    · have hn : ∀ σ2, IV σ2 → J G RL cL_law 4 ret (TL G b L xs) 184 σ2 184 6624 1031 [some (.ref (EXT + 400)), some (.ref 0), some (.ref 171), some (.int (nI i))] [] := by
        intro σ2 H2
        refine j_iinc (nI (i + 6)) dL_law_1031 rfl (by rw [show Int32.ofInt 6 = nI 6 from by decide]; exact nI_add i 6) (Nat.le_of_ble_eq_true rfl) rfl ?_
        refine j_goto 18 dL_law_1034 (by decide) ?_
        exact ih (i + 6) σ2 (by omega) (by omega) H2
      obtain ⟨j, hj, ej⟩ := pk_andE (xs i) (m := nI 31) 5 rfl
      have hsw : J G RL cL_law 4 ret (TL G b L xs) 184 σ 184 6624 33 [some (.ref (EXT + 400)), some (.ref 0), some (.ref 171), some (.int (nI i))] [.int (nI j)] := by
        have hj32 : j < 32 := hj
        rcases (show j = 0 ∨ j = 1 ∨ j = 2 ∨ j = 3 ∨ j = 4 ∨ j = 5 ∨ j = 6 ∨ j = 7 ∨ j = 8 ∨ j = 9 ∨ j = 10 ∨ j = 11 ∨ j = 12 ∨ j = 13 ∨ j = 14 ∨ j = 15 ∨ j = 16 ∨ j = 17 ∨ j = 18 ∨ j = 19 ∨ j = 20 ∨ j = 21 ∨ j = 22 ∨ j = 23 ∨ j = 24 ∨ j = 25 ∨ j = 26 ∨ j = 27 ∨ j = 28 ∨ j = 29 ∨ j = 30 ∨ j = 31 by omega) with e | e | e | e | e | e | e | e | e | e | e | e | e | e | e | e | e | e | e | e | e | e | e | e | e | e | e | e | e | e | e | e
        · subst e
          refine j_tabK 0 164 dL_law_33 rfl (by decide) (by decide) (by decide) rfl (by decide) ?_
          exact lc_row hL hi H hn
        · subst e
          refine j_tabK 1 207 dL_law_33 rfl (by decide) (by decide) (by decide) rfl (by decide) ?_
          exact lc_set hL hi H hn
        · subst e
          refine j_tabK 2 250 dL_law_33 rfl (by decide) (by decide) (by decide) rfl (by decide) ?_
          exact lc_copy hL hi H hn
        · subst e
          refine j_tabK 3 313 dL_law_33 rfl (by decide) (by decide) (by decide) rfl (by decide) ?_
          exact lc_drop hL hi H hn
        · subst e
          refine j_tabK 4 336 dL_law_33 rfl (by decide) (by decide) (by decide) rfl (by decide) ?_
          exact lc_feed hL hi H hn
        · subst e
          refine j_tabK 5 399 dL_law_33 rfl (by decide) (by decide) (by decide) rfl (by decide) ?_
          exact lc_town hL hi H hn
        · subst e
          refine j_tabK 6 412 dL_law_33 rfl (by decide) (by decide) (by decide) rfl (by decide) ?_
          exact lc_fault hL hi H hn
        · subst e
          refine j_tabK 7 425 dL_law_33 rfl (by decide) (by decide) (by decide) rfl (by decide) ?_
          exact lc_loan hL hi H hn
        · subst e
          refine j_tabK 8 468 dL_law_33 rfl (by decide) (by decide) (by decide) rfl (by decide) ?_
          exact lc_pay hL hi H hn
        · subst e
          refine j_tabK 9 511 dL_law_33 rfl (by decide) (by decide) (by decide) rfl (by decide) ?_
          exact lc_paint hL hi H hn
        · subst e
          refine j_tabK 10 544 dL_law_33 rfl (by decide) (by decide) (by decide) rfl (by decide) ?_
          exact lc_hedge hL hi H hn
        · subst e
          refine j_tabK 11 577 dL_law_33 rfl (by decide) (by decide) (by decide) rfl (by decide) ?_
          exact lc_quarter hL hi H hn
        · subst e
          refine j_tabK 12 600 dL_law_33 rfl (by decide) (by decide) (by decide) rfl (by decide) ?_
          exact lc_undo hL hi H hn
        · subst e
          refine j_tabK 13 613 dL_law_33 rfl (by decide) (by decide) (by decide) rfl (by decide) ?_
          exact lc_person hL hi H hn
        · subst e
          refine j_tabK 14 646 dL_law_33 rfl (by decide) (by decide) (by decide) rfl (by decide) ?_
          exact lc_fits hL hi H hn
        · subst e
          refine j_tabK 15 689 dL_law_33 rfl (by decide) (by decide) (by decide) rfl (by decide) ?_
          exact lc_hiding hL hi H hn
        · subst e
          refine j_tabK 16 712 dL_law_33 rfl (by decide) (by decide) (by decide) rfl (by decide) ?_
          exact lc_clear hL hi H hn
        · subst e
          refine j_tabK 17 735 dL_law_33 rfl (by decide) (by decide) (by decide) rfl (by decide) ?_
          exact lc_coin hL hi H hn
        · subst e
          refine j_tabK 18 758 dL_law_33 rfl (by decide) (by decide) (by decide) rfl (by decide) ?_
          exact lc_run hL hi H hn
        · subst e
          refine j_tabK 19 791 dL_law_33 rfl (by decide) (by decide) (by decide) rfl (by decide) ?_
          exact lc_cheats hL hi H hn
        · subst e
          refine j_tabK 20 804 dL_law_33 rfl (by decide) (by decide) (by decide) rfl (by decide) ?_
          exact lc_walk hL hi H hn
        · subst e
          refine j_tabK 21 837 dL_law_33 rfl (by decide) (by decide) (by decide) rfl (by decide) ?_
          exact lc_image hL hi H hn
        · subst e
          refine j_tabK 22 860 dL_law_33 rfl (by decide) (by decide) (by decide) rfl (by decide) ?_
          exact lc_restore hL hi H hn
        · subst e
          refine j_tabK 23 883 dL_law_33 rfl (by decide) (by decide) (by decide) rfl (by decide) ?_
          exact lc_kind hL hi H hn
        · subst e
          refine j_tabK 24 906 dL_law_33 rfl (by decide) (by decide) (by decide) rfl (by decide) ?_
          exact lc_as hL hi H hn
        · subst e
          refine j_tabK 25 939 dL_law_33 rfl (by decide) (by decide) (by decide) rfl (by decide) ?_
          exact lc_ask hL hi H hn
        · subst e
          refine j_tabK 26 972 dL_law_33 rfl (by decide) (by decide) (by decide) rfl (by decide) ?_
          exact lc_trace hL hi H hn
        · subst e
          refine j_tabK 27 995 dL_law_33 rfl (by decide) (by decide) (by decide) rfl (by decide) ?_
          exact lc_count hL hi H hn
        · subst e
          refine j_tabK 28 1018 dL_law_33 rfl (by decide) (by decide) (by decide) rfl (by decide) ?_
          exact lc_status hL hi H hn
        · subst e
          refine j_tabOut 1031 dL_law_33 (Or.inr (by decide)) (by decide) ?_
          exact hn σ H
        · subst e
          refine j_tabOut 1031 dL_law_33 (Or.inr (by decide)) (by decide) ?_
          exact hn σ H
        · subst e
          refine j_tabOut 1031 dL_law_33 (Or.inr (by decide)) (by decide) ?_
          exact hn σ H
      refine j_iload_n dL_law_18 rfl rfl ?_
      refine j_aload_n dL_law_19 rfl rfl ?_
      refine j_slenL dL_law_20 ?_
      refine j_bipush (nI 6) dL_law_21 rfl ?_
      refine j_isubN dL_law_23 (by omega) ?_
      refine j_icmp_gtN 1037 dL_law_24 (by decide) (by omega) (by omega) (fun b24 => by exfalso; omega) (fun b24 => ?_)
      refine j_aload_n dL_law_27 rfl rfl ?_
      refine j_iload_n dL_law_28 rfl rfl ?_
      refine j_sld dL_law_29 (by omega) hL ?_
      refine j_bipush (nI 31) dL_law_30 rfl ?_
      refine j_iand dL_law_32 ?_
      refine j_top (nI j) ej ?_
      exact hsw
    · refine j_iload_n dL_law_18 rfl rfl ?_
      refine j_aload_n dL_law_19 rfl rfl ?_
      refine j_slenL dL_law_20 ?_
      refine j_bipush (nI 6) dL_law_21 rfl ?_
      refine j_isub dL_law_23 ?_
      refine j_icmp_gt 1037 dL_law_24 (by decide) (fun b24 => ?_) (fun b24 => by exact absurd (ti_lt.mpr (by rw [pk_sub_toInt (by omega) (by decide), nI_toInt (by omega)]; omega)) b24)
      refine j_iconst (nI 1) dL_law_1037 rfl ?_
      exact j_lret dL_law_1038 (Nat.le_of_ble_eq_true rfl) (Nat.le_of_ble_eq_true rfl)
      done
theorem IV_new {σ : AH} {e : AE} : IV (mH (ups (hA9 σ) 171 e) (fun _ => 0) (fun _ => 0) (fun _ => 0) (fun _ => 0) (fun _ => 0) (fun _ => -1) (fun _ => 0) (fun _ => 0) (fun _ => 0) (fun _ => 0) (fun _ => 0) (fun _ => 0) 0 0 0 0 0 0 0 0 0 0 0 0) := by
  have e1 : mH (ups (hA9 σ) 171 e) (fun _ => 0) (fun _ => 0) (fun _ => 0) (fun _ => 0) (fun _ => 0) (fun _ => -1) (fun _ => 0) (fun _ => 0) (fun _ => 0) (fun _ => 0) (fun _ => 0) (fun _ => 0) 0 0 0 0 0 0 0 0 0 0 0 0 = mH (ups (hA9 σ) 171 e) (encG T0) (fun _ => 0) (fun _ => 0) (fun _ => 0) (fun _ => 0) (fun _ => -1) (fun _ => 0) (fun _ => 0) (fun _ => 0) (fun _ => 0) (fun _ => 0) (fun _ => 0) 0 0 0 0 0 0 0 0 0 0 0 0 := by
    rw [show encG T0 = (fun _ => nI 0) from if_pos rfl]
    rfl
  rw [e1]
  refine ⟨nI 0, nI 0, fun _ => -1, fun _ => nI 0, fun _ _ => 0, fun _ => 0, 0, (0, 0, 0, 0, 0, 0), T0, T0, T0, 0, 0, fun _ => T0, fun _ => T0, 0, fun _ => 0, fun _ => 0, fun _ => 0, fun _ => 0, fun _ => 0, fun _ => 0, fun _ => -1, fun _ => 0, fun _ => 0, fun _ => 0, fun _ => 0, 0, 0, 0, 0, ?_, mH_mH, ?_⟩
  · exact (XR_new (σ := σ)).mod (fun k h => (mH_x (Or.inl h)).trans (ups_x (by omega)))
  · refine ⟨fun k hk => Or.inl ⟨rfl, rfl⟩, ⟨fun j => ?_, fun j => ?_⟩, by decide, by show (0 : Nat) ≤ 4; decide, fun p hp => ?_, Or.inr ⟨rfl, rfl⟩, actR.none, fun k hk => Or.inl ⟨rfl, rfl⟩, by decide⟩
    · show -128 ≤ (0 : Int32).toInt ∧ (0 : Int32).toInt ≤ 127; decide
    · show (0 : Int32) = ubI 0; decide
    · show 0 ≤ (0 : Int32).toInt ∧ (0 : Int32).toInt ≤ 99; decide
theorem law_start (hL : L ≤ 3072) : J G RL cL_law 4 ret (TL G b L xs) 0 (fun _ => none) 0 0 0 [some (.ref (EXT + 400)), none, none, none] [] := by
  refine j_new dL_law_0 5 rfl cl_L_7 nw_5 in_5 tyX5 tyX5_ok dfl5 (df_5 G) (Nat.le_of_ble_eq_true rfl) (Nat.le_of_ble_eq_true rfl) (Nat.le_of_ble_eq_true rfl) ?_
  refine j_dup dL_law_3 rfl ?_
  refine j_callI (k_front ups_a) dL_law_4 rfl mi_L_9 ⟨(Nat.le_of_ble_eq_true rfl), (Nat.le_of_ble_eq_true rfl)⟩ ⟨(Nat.le_of_ble_eq_true rfl), (Nat.le_of_ble_eq_true rfl)⟩ (Nat.le_of_ble_eq_true rfl) ?_
  refine j_astore_n dL_law_7 rfl (Nat.le_of_ble_eq_true rfl) rfl ?_
  refine j_new dL_law_8 6 rfl cl_L_10 nw_6 in_6 tyX6 tyX6_ok dfl6 (df_6 G) (Nat.le_of_ble_eq_true rfl) (Nat.le_of_ble_eq_true rfl) (Nat.le_of_ble_eq_true rfl) ?_
  refine j_dup dL_law_11 rfl ?_
  refine j_callI (k_model ups_a) dL_law_12 rfl mi_L_12 ⟨(Nat.le_of_ble_eq_true rfl), (Nat.le_of_ble_eq_true rfl)⟩ ⟨(Nat.le_of_ble_eq_true rfl), (Nat.le_of_ble_eq_true rfl)⟩ (Nat.le_of_ble_eq_true rfl) ?_
  refine j_astore_n dL_law_15 rfl (Nat.le_of_ble_eq_true rfl) rfl ?_
  refine j_iconst (nI 0) dL_law_16 rfl ?_
  refine j_istore_n dL_law_17 rfl (Nat.le_of_ble_eq_true rfl) rfl ?_
  exact law_loop hL (L + 1) 0 _ (by omega) (by omega) IV_new
end LL
theorem tw1 {w : Cond} (i : Nat) (h : lw_tbl[i]? = some w) : w ∈ lw_tbl := List.mem_of_getElem? h
abbrev Ag (s : State) : Nat → Prop := fun q => s.heap.size ≤ q
theorem Ag_no (s : State) : ∀ a : Nat, a < s.heap.size → ¬ Ag s a := fun a h => Nat.not_le.mpr h
section LG
variable {s : State} {b : Nat}
theorem gx_t0 (hts : ∀ w ∈ lw_tbl, w.before #[Value.ref b] s = true) (hs : ∀ c ∈ flatC (Jvm.Cond.and given_1 narrow_1), c.before #[Value.ref b] s = true) : ∃ t : Nat, va_Z RX5 "KINDS_THAT_ONE_IS" "[I" (.ref t) (Ag s) s s.heap ∧ va_T .int t 6 (fun j => .int (tb0.getD j 0)) (Ag s) s s.heap := by
  obtain ⟨t, h1, h2⟩ := va_Tof (args := #[Value.ref b]) (s := s) (tm := .static "DebtFronts" "KINDS_THAT_ONE_IS" "[I") (ty := .int) (N := 6) (f := fun j => .int (tb0.getD j 0)) (A := Ag s) (by decide) (hs _ (by decide +kernel)) (va_eqt (hs _ (by decide +kernel))) (fun j hj => by
    match j, hj with
    | 0, _ => exact va_eqt (z := 1) (hs (Cond.eq (.elem (.static "DebtFronts" "KINDS_THAT_ONE_IS" "[I") (.int 0)) (.int 1)) (by decide +kernel))
    | 1, _ => exact va_eqt (z := 3) (hs (Cond.eq (.elem (.static "DebtFronts" "KINDS_THAT_ONE_IS" "[I") (.int 1)) (.int 3)) (by decide +kernel))
    | 2, _ => exact va_eqt (z := 7) (hs (Cond.eq (.elem (.static "DebtFronts" "KINDS_THAT_ONE_IS" "[I") (.int 2)) (.int 7)) (by decide +kernel))
    | 3, _ => exact va_eqt (z := 15) (hs (Cond.eq (.elem (.static "DebtFronts" "KINDS_THAT_ONE_IS" "[I") (.int 3)) (.int 15)) (by decide +kernel))
    | 4, _ => exact va_eqt (z := 17) (hs (Cond.eq (.elem (.static "DebtFronts" "KINDS_THAT_ONE_IS" "[I") (.int 4)) (.int 17)) (by decide +kernel))
    | 5, _ => exact va_eqt (z := 49) (hs (Cond.eq (.elem (.static "DebtFronts" "KINDS_THAT_ONE_IS" "[I") (.int 5)) (.int 49)) (by decide +kernel))
    | j + 6, hj => exact absurd hj (by omega)) (Ag_no s)
  exact ⟨t, va_Zof (hts (.laysStatic "DebtFronts" "KINDS_THAT_ONE_IS" "[I") (tw1 666 (by decide +kernel))) (hts (.initialized "DebtFronts") (tw1 54 (by decide +kernel))) h1 (Ag_no s), h2⟩
theorem gx_t1 (hts : ∀ w ∈ lw_tbl, w.before #[Value.ref b] s = true) (hs : ∀ c ∈ flatC (Jvm.Cond.and given_1 narrow_1), c.before #[Value.ref b] s = true) : ∃ t : Nat, va_Z RX1 "SIZE_BODIES" "[I" (.ref t) (Ag s) s s.heap ∧ va_T .int t 6 (fun j => .int (tb1.getD j 0)) (Ag s) s s.heap := by
  obtain ⟨t, h1, h2⟩ := va_Tof (args := #[Value.ref b]) (s := s) (tm := .static "DebtFronts$Asks" "SIZE_BODIES" "[I") (ty := .int) (N := 6) (f := fun j => .int (tb1.getD j 0)) (A := Ag s) (by decide) (hs _ (by decide +kernel)) (va_eqt (hs _ (by decide +kernel))) (fun j hj => by
    match j, hj with
    | 0, _ => exact va_eqt (z := 10) (hs (Cond.eq (.elem (.static "DebtFronts$Asks" "SIZE_BODIES" "[I") (.int 0)) (.int 10)) (by decide +kernel))
    | 1, _ => exact va_eqt (z := 11) (hs (Cond.eq (.elem (.static "DebtFronts$Asks" "SIZE_BODIES" "[I") (.int 1)) (.int 11)) (by decide +kernel))
    | 2, _ => exact va_eqt (z := 11) (hs (Cond.eq (.elem (.static "DebtFronts$Asks" "SIZE_BODIES" "[I") (.int 2)) (.int 11)) (by decide +kernel))
    | 3, _ => exact va_eqt (z := 12) (hs (Cond.eq (.elem (.static "DebtFronts$Asks" "SIZE_BODIES" "[I") (.int 3)) (.int 12)) (by decide +kernel))
    | 4, _ => exact va_eqt (z := 13) (hs (Cond.eq (.elem (.static "DebtFronts$Asks" "SIZE_BODIES" "[I") (.int 4)) (.int 13)) (by decide +kernel))
    | 5, _ => exact va_eqt (z := 14) (hs (Cond.eq (.elem (.static "DebtFronts$Asks" "SIZE_BODIES" "[I") (.int 5)) (.int 14)) (by decide +kernel))
    | j + 6, hj => exact absurd hj (by omega)) (Ag_no s)
  exact ⟨t, va_Zof (hts (.laysStatic "DebtFronts$Asks" "SIZE_BODIES" "[I") (tw1 677 (by decide +kernel))) (hts (.initialized "DebtFronts$Asks") (tw1 59 (by decide +kernel))) h1 (Ag_no s), h2⟩
theorem gx_t2 (hts : ∀ w ∈ lw_tbl, w.before #[Value.ref b] s = true) (hs : ∀ c ∈ flatC (Jvm.Cond.and given_1 narrow_1), c.before #[Value.ref b] s = true) : ∃ t : Nat, va_Z RX1 "MARK_BODIES" "[I" (.ref t) (Ag s) s s.heap ∧ va_T .int t 6 (fun j => .int (tb2.getD j 0)) (Ag s) s s.heap := by
  obtain ⟨t, h1, h2⟩ := va_Tof (args := #[Value.ref b]) (s := s) (tm := .static "DebtFronts$Asks" "MARK_BODIES" "[I") (ty := .int) (N := 6) (f := fun j => .int (tb2.getD j 0)) (A := Ag s) (by decide) (hs _ (by decide +kernel)) (va_eqt (hs _ (by decide +kernel))) (fun j hj => by
    match j, hj with
    | 0, _ => exact va_eqt (z := 20) (hs (Cond.eq (.elem (.static "DebtFronts$Asks" "MARK_BODIES" "[I") (.int 0)) (.int 20)) (by decide +kernel))
    | 1, _ => exact va_eqt (z := 21) (hs (Cond.eq (.elem (.static "DebtFronts$Asks" "MARK_BODIES" "[I") (.int 1)) (.int 21)) (by decide +kernel))
    | 2, _ => exact va_eqt (z := 22) (hs (Cond.eq (.elem (.static "DebtFronts$Asks" "MARK_BODIES" "[I") (.int 2)) (.int 22)) (by decide +kernel))
    | 3, _ => exact va_eqt (z := 24) (hs (Cond.eq (.elem (.static "DebtFronts$Asks" "MARK_BODIES" "[I") (.int 3)) (.int 24)) (by decide +kernel))
    | 4, _ => exact va_eqt (z := 23) (hs (Cond.eq (.elem (.static "DebtFronts$Asks" "MARK_BODIES" "[I") (.int 4)) (.int 23)) (by decide +kernel))
    | 5, _ => exact va_eqt (z := 23) (hs (Cond.eq (.elem (.static "DebtFronts$Asks" "MARK_BODIES" "[I") (.int 5)) (.int 23)) (by decide +kernel))
    | j + 6, hj => exact absurd hj (by omega)) (Ag_no s)
  exact ⟨t, va_Zof (hts (.laysStatic "DebtFronts$Asks" "MARK_BODIES" "[I") (tw1 679 (by decide +kernel))) (hts (.initialized "DebtFronts$Asks") (tw1 59 (by decide +kernel))) h1 (Ag_no s), h2⟩
theorem gx_cs (hts : ∀ w ∈ lw_tbl, w.before #[Value.ref b] s = true) (hs : ∀ c ∈ flatC (Jvm.Cond.and given_1 narrow_1), c.before #[Value.ref b] s = true) : va_Z "java/lang/String" "COMPACT_STRINGS" "Z" (.int 1) (Ag s) s s.heap :=
  va_Zof (hts (.laysStatic "java/lang/String" "COMPACT_STRINGS" "Z") (tw1 365 (by decide +kernel))) (hts (.initialized "java/lang/String") (tw1 62 (by decide +kernel))) (va_eqt (hs _ (by decide +kernel))) (Ag_no s)
theorem gx_fm (hts : ∀ w ∈ lw_tbl, w.before #[Value.ref b] s = true) (hs : ∀ c ∈ flatC (Jvm.Cond.and given_1 narrow_1), c.before #[Value.ref b] s = true) : va_Zq "jdk/internal/util/Preconditions" "SIOOBE_FORMATTER" "Ljava/util/function/BiFunction;" (Ag s) s s.heap :=
  va_Zqof (hts (.laysStatic "jdk/internal/util/Preconditions" "SIOOBE_FORMATTER" "Ljava/util/function/BiFunction;") (tw1 381 (by decide +kernel))) (hts (.initialized "jdk/internal/util/Preconditions") (tw1 64 (by decide +kernel))) (hs _ (by decide +kernel)) (Ag_no s)
abbrev tmS (i : Nat) : Term := .string "DebtFronts$Reader" (idS.getD i 0)
theorem gs_ex (hs : ∀ c ∈ flatC (Jvm.Cond.and given_1 narrow_1), c.before #[Value.ref b] s = true) : ∀ i : Nat, i < 5 → (Cond.exactly (tmS i) "java/lang/String").before #[Value.ref b] s = true := by
  intro i hi
  match i, hi with
  | 0, _ => exact hs (Cond.exactly (.string "DebtFronts$Reader" 49) "java/lang/String") (by decide +kernel)
  | 1, _ => exact hs (Cond.exactly (.string "DebtFronts$Reader" 71) "java/lang/String") (by decide +kernel)
  | 2, _ => exact hs (Cond.exactly (.string "DebtFronts$Reader" 79) "java/lang/String") (by decide +kernel)
  | 3, _ => exact hs (Cond.exactly (.string "DebtFronts$Reader" 81) "java/lang/String") (by decide +kernel)
  | 4, _ => exact hs (Cond.exactly (.string "DebtFronts$Reader" 87) "java/lang/String") (by decide +kernel)
  | i + 5, hi => exact absurd hi (by omega)
theorem gs_co (hs : ∀ c ∈ flatC (Jvm.Cond.and given_1 narrow_1), c.before #[Value.ref b] s = true) : ∀ i : Nat, i < 5 → (Cond.eq (.field (tmS i) "java/lang/String" "coder" "B") (.int 0)).before #[Value.ref b] s = true := by
  intro i hi
  match i, hi with
  | 0, _ => exact hs (Cond.eq (.field (.string "DebtFronts$Reader" 49) "java/lang/String" "coder" "B") (.int 0)) (by decide +kernel)
  | 1, _ => exact hs (Cond.eq (.field (.string "DebtFronts$Reader" 71) "java/lang/String" "coder" "B") (.int 0)) (by decide +kernel)
  | 2, _ => exact hs (Cond.eq (.field (.string "DebtFronts$Reader" 79) "java/lang/String" "coder" "B") (.int 0)) (by decide +kernel)
  | 3, _ => exact hs (Cond.eq (.field (.string "DebtFronts$Reader" 81) "java/lang/String" "coder" "B") (.int 0)) (by decide +kernel)
  | 4, _ => exact hs (Cond.eq (.field (.string "DebtFronts$Reader" 87) "java/lang/String" "coder" "B") (.int 0)) (by decide +kernel)
  | i + 5, hi => exact absurd hi (by omega)
theorem gs_ar (hs : ∀ c ∈ flatC (Jvm.Cond.and given_1 narrow_1), c.before #[Value.ref b] s = true) : ∀ i : Nat, i < 5 → (Cond.arrayOf (.field (tmS i) "java/lang/String" "value" "[B") .byte).before #[Value.ref b] s = true := by
  intro i hi
  match i, hi with
  | 0, _ => exact hs (Cond.arrayOf (.field (.string "DebtFronts$Reader" 49) "java/lang/String" "value" "[B") .byte) (by decide +kernel)
  | 1, _ => exact hs (Cond.arrayOf (.field (.string "DebtFronts$Reader" 71) "java/lang/String" "value" "[B") .byte) (by decide +kernel)
  | 2, _ => exact hs (Cond.arrayOf (.field (.string "DebtFronts$Reader" 79) "java/lang/String" "value" "[B") .byte) (by decide +kernel)
  | 3, _ => exact hs (Cond.arrayOf (.field (.string "DebtFronts$Reader" 81) "java/lang/String" "value" "[B") .byte) (by decide +kernel)
  | 4, _ => exact hs (Cond.arrayOf (.field (.string "DebtFronts$Reader" 87) "java/lang/String" "value" "[B") .byte) (by decide +kernel)
  | i + 5, hi => exact absurd hi (by omega)
theorem gs_le (hs : ∀ c ∈ flatC (Jvm.Cond.and given_1 narrow_1), c.before #[Value.ref b] s = true) : ∀ i : Nat, i < 5 → (Cond.eq (.length (.field (tmS i) "java/lang/String" "value" "[B")) (.int (Int32.ofNat (lenS.getD i 0)))).before #[Value.ref b] s = true := by
  intro i hi
  match i, hi with
  | 0, _ => exact hs (Cond.eq (.length (.field (.string "DebtFronts$Reader" 49) "java/lang/String" "value" "[B")) (.int 3)) (by decide +kernel)
  | 1, _ => exact hs (Cond.eq (.length (.field (.string "DebtFronts$Reader" 71) "java/lang/String" "value" "[B")) (.int 6)) (by decide +kernel)
  | 2, _ => exact hs (Cond.eq (.length (.field (.string "DebtFronts$Reader" 79) "java/lang/String" "value" "[B")) (.int 5)) (by decide +kernel)
  | 3, _ => exact hs (Cond.eq (.length (.field (.string "DebtFronts$Reader" 81) "java/lang/String" "value" "[B")) (.int 4)) (by decide +kernel)
  | 4, _ => exact hs (Cond.eq (.length (.field (.string "DebtFronts$Reader" 87) "java/lang/String" "value" "[B")) (.int 4)) (by decide +kernel)
  | i + 5, hi => exact absurd hi (by omega)
theorem gs_el (hs : ∀ c ∈ flatC (Jvm.Cond.and given_1 narrow_1), c.before #[Value.ref b] s = true) : ∀ i : Nat, i < 5 → ∀ j : Nat, j < lenS.getD i 0 → (Cond.eq (.elem (.field (tmS i) "java/lang/String" "value" "[B") (.int (Int32.ofNat j))) (.int ((bytS.getD i []).getD j 0))).before #[Value.ref b] s = true := by
  intro i hi j hj
  match i, hi, j, hj with
  | 0, _, 0, _ => exact hs (Cond.eq (.elem (.field (.string "DebtFronts$Reader" 49) "java/lang/String" "value" "[B") (.int 0)) (.int 108)) (by decide +kernel)
  | 0, _, 1, _ => exact hs (Cond.eq (.elem (.field (.string "DebtFronts$Reader" 49) "java/lang/String" "value" "[B") (.int 1)) (.int 97)) (by decide +kernel)
  | 0, _, 2, _ => exact hs (Cond.eq (.elem (.field (.string "DebtFronts$Reader" 49) "java/lang/String" "value" "[B") (.int 2)) (.int 119)) (by decide +kernel)
  | 0, _, j + 3, hj => exact absurd (show j + 3 < 3 from hj) (by omega)
  | 1, _, 0, _ => exact hs (Cond.eq (.elem (.field (.string "DebtFronts$Reader" 71) "java/lang/String" "value" "[B") (.int 0)) (.int 112)) (by decide +kernel)
  | 1, _, 1, _ => exact hs (Cond.eq (.elem (.field (.string "DebtFronts$Reader" 71) "java/lang/String" "value" "[B") (.int 1)) (.int 101)) (by decide +kernel)
  | 1, _, 2, _ => exact hs (Cond.eq (.elem (.field (.string "DebtFronts$Reader" 71) "java/lang/String" "value" "[B") (.int 2)) (.int 114)) (by decide +kernel)
  | 1, _, 3, _ => exact hs (Cond.eq (.elem (.field (.string "DebtFronts$Reader" 71) "java/lang/String" "value" "[B") (.int 3)) (.int 115)) (by decide +kernel)
  | 1, _, 4, _ => exact hs (Cond.eq (.elem (.field (.string "DebtFronts$Reader" 71) "java/lang/String" "value" "[B") (.int 4)) (.int 111)) (by decide +kernel)
  | 1, _, 5, _ => exact hs (Cond.eq (.elem (.field (.string "DebtFronts$Reader" 71) "java/lang/String" "value" "[B") (.int 5)) (.int 110)) (by decide +kernel)
  | 1, _, j + 6, hj => exact absurd (show j + 6 < 6 from hj) (by omega)
  | 2, _, 0, _ => exact hs (Cond.eq (.elem (.field (.string "DebtFronts$Reader" 79) "java/lang/String" "value" "[B") (.int 0)) (.int 104)) (by decide +kernel)
  | 2, _, 1, _ => exact hs (Cond.eq (.elem (.field (.string "DebtFronts$Reader" 79) "java/lang/String" "value" "[B") (.int 1)) (.int 101)) (by decide +kernel)
  | 2, _, 2, _ => exact hs (Cond.eq (.elem (.field (.string "DebtFronts$Reader" 79) "java/lang/String" "value" "[B") (.int 2)) (.int 100)) (by decide +kernel)
  | 2, _, 3, _ => exact hs (Cond.eq (.elem (.field (.string "DebtFronts$Reader" 79) "java/lang/String" "value" "[B") (.int 3)) (.int 103)) (by decide +kernel)
  | 2, _, 4, _ => exact hs (Cond.eq (.elem (.field (.string "DebtFronts$Reader" 79) "java/lang/String" "value" "[B") (.int 4)) (.int 101)) (by decide +kernel)
  | 2, _, j + 5, hj => exact absurd (show j + 5 < 5 from hj) (by omega)
  | 3, _, 0, _ => exact hs (Cond.eq (.elem (.field (.string "DebtFronts$Reader" 81) "java/lang/String" "value" "[B") (.int 0)) (.int 111)) (by decide +kernel)
  | 3, _, 1, _ => exact hs (Cond.eq (.elem (.field (.string "DebtFronts$Reader" 81) "java/lang/String" "value" "[B") (.int 1)) (.int 112)) (by decide +kernel)
  | 3, _, 2, _ => exact hs (Cond.eq (.elem (.field (.string "DebtFronts$Reader" 81) "java/lang/String" "value" "[B") (.int 2)) (.int 101)) (by decide +kernel)
  | 3, _, 3, _ => exact hs (Cond.eq (.elem (.field (.string "DebtFronts$Reader" 81) "java/lang/String" "value" "[B") (.int 3)) (.int 110)) (by decide +kernel)
  | 3, _, j + 4, hj => exact absurd (show j + 4 < 4 from hj) (by omega)
  | 4, _, 0, _ => exact hs (Cond.eq (.elem (.field (.string "DebtFronts$Reader" 87) "java/lang/String" "value" "[B") (.int 0)) (.int 111)) (by decide +kernel)
  | 4, _, 1, _ => exact hs (Cond.eq (.elem (.field (.string "DebtFronts$Reader" 87) "java/lang/String" "value" "[B") (.int 1)) (.int 119)) (by decide +kernel)
  | 4, _, 2, _ => exact hs (Cond.eq (.elem (.field (.string "DebtFronts$Reader" 87) "java/lang/String" "value" "[B") (.int 2)) (.int 101)) (by decide +kernel)
  | 4, _, 3, _ => exact hs (Cond.eq (.elem (.field (.string "DebtFronts$Reader" 87) "java/lang/String" "value" "[B") (.int 3)) (.int 115)) (by decide +kernel)
  | 4, _, j + 4, hj => exact absurd (show j + 4 < 4 from hj) (by omega)
  | i + 5, hi, _, _ => exact absurd hi (by omega)
theorem gs_ne (hs : ∀ c ∈ flatC (Jvm.Cond.and given_1 narrow_1), c.before #[Value.ref b] s = true) : ∀ i j : Nat, i < 5 → j < 5 → i ≠ j → (Cond.not (Cond.eq (tmS i) (tmS j))).before #[Value.ref b] s = true ∨ (Cond.not (Cond.eq (tmS j) (tmS i))).before #[Value.ref b] s = true := by
  intro i j hi hj hne
  match i, hi, j, hj, hne with
  | 0, _, 0, _, hne => exact absurd rfl hne
  | 0, _, 1, _, _ => exact Or.inl (hs (Cond.not (Cond.eq (.string "DebtFronts$Reader" 49) (.string "DebtFronts$Reader" 71))) (by decide +kernel))
  | 0, _, 2, _, _ => exact Or.inl (hs (Cond.not (Cond.eq (.string "DebtFronts$Reader" 49) (.string "DebtFronts$Reader" 79))) (by decide +kernel))
  | 0, _, 3, _, _ => exact Or.inl (hs (Cond.not (Cond.eq (.string "DebtFronts$Reader" 49) (.string "DebtFronts$Reader" 81))) (by decide +kernel))
  | 0, _, 4, _, _ => exact Or.inl (hs (Cond.not (Cond.eq (.string "DebtFronts$Reader" 49) (.string "DebtFronts$Reader" 87))) (by decide +kernel))
  | 0, _, j + 5, hj, _ => exact absurd hj (by omega)
  | 1, _, 0, _, _ => exact Or.inr (hs (Cond.not (Cond.eq (.string "DebtFronts$Reader" 49) (.string "DebtFronts$Reader" 71))) (by decide +kernel))
  | 1, _, 1, _, hne => exact absurd rfl hne
  | 1, _, 2, _, _ => exact Or.inl (hs (Cond.not (Cond.eq (.string "DebtFronts$Reader" 71) (.string "DebtFronts$Reader" 79))) (by decide +kernel))
  | 1, _, 3, _, _ => exact Or.inl (hs (Cond.not (Cond.eq (.string "DebtFronts$Reader" 71) (.string "DebtFronts$Reader" 81))) (by decide +kernel))
  | 1, _, 4, _, _ => exact Or.inl (hs (Cond.not (Cond.eq (.string "DebtFronts$Reader" 71) (.string "DebtFronts$Reader" 87))) (by decide +kernel))
  | 1, _, j + 5, hj, _ => exact absurd hj (by omega)
  | 2, _, 0, _, _ => exact Or.inr (hs (Cond.not (Cond.eq (.string "DebtFronts$Reader" 49) (.string "DebtFronts$Reader" 79))) (by decide +kernel))
  | 2, _, 1, _, _ => exact Or.inr (hs (Cond.not (Cond.eq (.string "DebtFronts$Reader" 71) (.string "DebtFronts$Reader" 79))) (by decide +kernel))
  | 2, _, 2, _, hne => exact absurd rfl hne
  | 2, _, 3, _, _ => exact Or.inl (hs (Cond.not (Cond.eq (.string "DebtFronts$Reader" 79) (.string "DebtFronts$Reader" 81))) (by decide +kernel))
  | 2, _, 4, _, _ => exact Or.inl (hs (Cond.not (Cond.eq (.string "DebtFronts$Reader" 79) (.string "DebtFronts$Reader" 87))) (by decide +kernel))
  | 2, _, j + 5, hj, _ => exact absurd hj (by omega)
  | 3, _, 0, _, _ => exact Or.inr (hs (Cond.not (Cond.eq (.string "DebtFronts$Reader" 49) (.string "DebtFronts$Reader" 81))) (by decide +kernel))
  | 3, _, 1, _, _ => exact Or.inr (hs (Cond.not (Cond.eq (.string "DebtFronts$Reader" 71) (.string "DebtFronts$Reader" 81))) (by decide +kernel))
  | 3, _, 2, _, _ => exact Or.inr (hs (Cond.not (Cond.eq (.string "DebtFronts$Reader" 79) (.string "DebtFronts$Reader" 81))) (by decide +kernel))
  | 3, _, 3, _, hne => exact absurd rfl hne
  | 3, _, 4, _, _ => exact Or.inl (hs (Cond.not (Cond.eq (.string "DebtFronts$Reader" 81) (.string "DebtFronts$Reader" 87))) (by decide +kernel))
  | 3, _, j + 5, hj, _ => exact absurd hj (by omega)
  | 4, _, 0, _, _ => exact Or.inr (hs (Cond.not (Cond.eq (.string "DebtFronts$Reader" 49) (.string "DebtFronts$Reader" 87))) (by decide +kernel))
  | 4, _, 1, _, _ => exact Or.inr (hs (Cond.not (Cond.eq (.string "DebtFronts$Reader" 71) (.string "DebtFronts$Reader" 87))) (by decide +kernel))
  | 4, _, 2, _, _ => exact Or.inr (hs (Cond.not (Cond.eq (.string "DebtFronts$Reader" 79) (.string "DebtFronts$Reader" 87))) (by decide +kernel))
  | 4, _, 3, _, _ => exact Or.inr (hs (Cond.not (Cond.eq (.string "DebtFronts$Reader" 81) (.string "DebtFronts$Reader" 87))) (by decide +kernel))
  | 4, _, 4, _, hne => exact absurd rfl hne
  | 4, _, j + 5, hj, _ => exact absurd hj (by omega)
  | i + 5, hi, _, _, _ => exact absurd hi (by omega)
theorem gs_sr (hts : ∀ w ∈ lw_tbl, w.before #[Value.ref b] s = true) : ∀ i : Nat, i < 5 → (Cond.stringRef RX2 (idS.getD i 0) (txS.getD i "")).before #[Value.ref b] s = true := by
  intro i hi
  match i, hi with
  | 0, _ => exact hts (.stringRef "DebtFronts$Reader" 49 "law") (tw1 347 (by decide +kernel))
  | 1, _ => exact hts (.stringRef "DebtFronts$Reader" 71 "person") (tw1 420 (by decide +kernel))
  | 2, _ => exact hts (.stringRef "DebtFronts$Reader" 79 "hedge") (tw1 425 (by decide +kernel))
  | 3, _ => exact hts (.stringRef "DebtFronts$Reader" 81 "open") (tw1 426 (by decide +kernel))
  | 4, _ => exact hts (.stringRef "DebtFronts$Reader" 87 "owes") (tw1 435 (by decide +kernel))
  | i + 5, hi => exact absurd hi (by omega)
theorem gs_all (hs : ∀ c ∈ flatC (Jvm.Cond.and given_1 narrow_1), c.before #[Value.ref b] s = true) : ∃ adK adV : Nat → Nat, vk_S 5 lenS bytS adK adV (Ag s) s s.heap ∧ ∀ i : Nat, i < 5 → (tmS i).eval #[Value.ref b] s none [] s = some (.ref (adK i)) :=
  vk_Sof (by decide) (gs_ex hs) (gs_co hs) (gs_ar hs) (gs_le hs) (gs_el hs) (gs_ne hs) (Ag_no s)
theorem ga_prim {ty : FieldType} (h : (Cond.arrayClass ty).before #[Value.ref b] s = true) : ∃ cA : ClassId, ArrOfT s cA ty ∧ s.vm.findClass ("[" ++ ty.toString) = some cA := by
  obtain ⟨cA, kA, comp, h1, h2, h3⟩ := Cond.arrayClass_spec h
  exact ⟨cA, fun n z => ⟨fun k h => (by cases h), kA, h2, comp, h3⟩, h1⟩
theorem ga_obj {C : String} (h : (Cond.arrayOver (.object C)).before #[Value.ref b] s = true) : ∃ cA : ClassId, ArrOfT s cA (.object C) ∧ va_RA s cA (.object C) := by
  obtain ⟨comp, cA, kA, h1, h2, h3, h4, h5⟩ := Cond.arrayOver_spec h
  exact ⟨cA, fun n z => ⟨fun k h => (by cases h), kA, h3, comp, h4⟩, kA, comp, h3, h4, h1, h5⟩
theorem ad_ge {G : GG} {k : Nat} (h : ¬ k < EXT) : ad G k = G.2.2.2.2 k := by unfold ad; rw [if_neg h]
theorem ext_ex (t0 t1 t2 tf b : Nat) (adK adV : Nat → Nat) : ∃ ext : Nat → Nat, ext (EXT + 200) = t0 ∧ ext (EXT + 201) = t1 ∧ ext (EXT + 202) = t2 ∧ ext (EXT + 300) = tf ∧ ext (EXT + 400) = b ∧ (∀ i, i < 5 → ext (EXT + i) = adK i) ∧ (∀ i, i < 5 → ext (EXT + 100 + i) = adV i) := by
  refine ⟨fun k => if k = EXT + 200 then t0 else if k = EXT + 201 then t1 else if k = EXT + 202 then t2 else if k = EXT + 300 then tf else if k = EXT + 400 then b else if k < EXT + 100 then adK (k - EXT) else adV (k - EXT - 100), ?_, ?_, ?_, ?_, ?_, fun i hi => ?_, fun i hi => ?_⟩
  · show (if EXT + 200 = EXT + 200 then t0 else _) = t0; rw [if_pos rfl]
  · show (if EXT + 201 = EXT + 200 then t0 else if EXT + 201 = EXT + 201 then t1 else _) = t1; rw [if_neg (by decide), if_pos rfl]
  · show (if EXT + 202 = EXT + 200 then t0 else if EXT + 202 = EXT + 201 then t1 else if EXT + 202 = EXT + 202 then t2 else _) = t2; rw [if_neg (by decide), if_neg (by decide), if_pos rfl]
  · show (if EXT + 300 = EXT + 200 then t0 else if EXT + 300 = EXT + 201 then t1 else if EXT + 300 = EXT + 202 then t2 else if EXT + 300 = EXT + 300 then tf else _) = tf; rw [if_neg (by decide), if_neg (by decide), if_neg (by decide), if_pos rfl]
  · show (if EXT + 400 = EXT + 200 then t0 else if EXT + 400 = EXT + 201 then t1 else if EXT + 400 = EXT + 202 then t2 else if EXT + 400 = EXT + 300 then tf else if EXT + 400 = EXT + 400 then b else _) = b; rw [if_neg (by decide), if_neg (by decide), if_neg (by decide), if_neg (by decide), if_pos rfl]
  · show (if EXT + i = EXT + 200 then t0 else if EXT + i = EXT + 201 then t1 else if EXT + i = EXT + 202 then t2 else if EXT + i = EXT + 300 then tf else if EXT + i = EXT + 400 then b else if EXT + i < EXT + 100 then adK (EXT + i - EXT) else adV (EXT + i - EXT - 100)) = adK i
    rw [if_neg (by omega), if_neg (by omega), if_neg (by omega), if_neg (by omega), if_neg (by omega), if_pos (by omega), Nat.add_sub_cancel_left]
  · show (if EXT + 100 + i = EXT + 200 then t0 else if EXT + 100 + i = EXT + 201 then t1 else if EXT + 100 + i = EXT + 202 then t2 else if EXT + 100 + i = EXT + 300 then tf else if EXT + 100 + i = EXT + 400 then b else if EXT + 100 + i < EXT + 100 then adK (EXT + 100 + i - EXT) else adV (EXT + 100 + i - EXT - 100)) = adV i
    rw [if_neg (by omega), if_neg (by omega), if_neg (by omega), if_neg (by omega), if_neg (by omega), if_neg (by omega), show EXT + 100 + i - EXT - 100 = i by omega]
theorem gw_all (hts : ∀ w ∈ lw_tbl, w.before #[Value.ref b] s = true) (hs : ∀ c ∈ flatC (Jvm.Cond.and given_1 narrow_1), c.before #[Value.ref b] s = true) : ∃ G : GG, G.1 = s.heap.size ∧ va_K (DG G) classes (tysG G) s ∧ Gx G s s.heap ∧ ad G (EXT + 400) = b := by
  have htg : ∀ w ∈ gw, w.before #[Value.ref b] s = true := fun w h => hts w (gw_in h)
  obtain ⟨c0, q0, hK0⟩ := u_known (C := RX0) (T := TX0) (N := 3) (n := 3) htg in_0 (htg _ (nw_0 _ List.mem_cons_self))
  obtain ⟨c1, q1, hK1⟩ := u_known (C := RX1) (T := TX1) (N := 2) (n := 2) htg in_1 (htg _ (nw_1 _ List.mem_cons_self))
  obtain ⟨c2, q2, hK2⟩ := u_known (C := RX2) (T := TX2) (N := 9) (n := 9) htg in_2 (htg _ (nw_2 _ List.mem_cons_self))
  obtain ⟨c3, q3, hK3⟩ := u_known (C := RX3) (T := TX3) (N := 3) (n := 3) htg in_3 (htg _ (nw_3 _ List.mem_cons_self))
  obtain ⟨c4, q4, hK4⟩ := u_known (C := RX4) (T := TX4) (N := 10) (n := 10) htg in_4 (htg _ (nw_4 _ List.mem_cons_self))
  obtain ⟨c5, q5, hK5⟩ := u_known (C := RX5) (T := TX5) (N := 10) (n := 10) htg in_5 (htg _ (nw_5 _ List.mem_cons_self))
  obtain ⟨c6, q6, hK6⟩ := u_known (C := RX6) (T := TX6) (N := 24) (n := 24) htg in_6 (htg _ (nw_6 _ List.mem_cons_self))
  obtain ⟨g0, ga0, gb0⟩ := ga_prim (htg _ ar_int)
  obtain ⟨g1, ga1, gb1⟩ := ga_prim (htg _ ar_byte)
  obtain ⟨g2, ga2, gb2⟩ := ga_prim (htg _ ar_boolean)
  obtain ⟨g3, ga3, gb3⟩ := ga_obj (C := RX3) (hts (.arrayOver (.object RX3)) (tw1 76 (by decide +kernel)))
  obtain ⟨g4, ga4, gb4⟩ := ga_obj (C := RX4) (hts (.arrayOver (.object RX4)) (tw1 194 (by decide +kernel)))
  obtain ⟨t0, z0, y0⟩ := gx_t0 hts hs
  obtain ⟨t1, z1, y1⟩ := gx_t1 hts hs
  obtain ⟨t2, z2, y2⟩ := gx_t2 hts hs
  obtain ⟨tf, hf⟩ : ∃ tf : Nat, va_Z "jdk/internal/util/Preconditions" "SIOOBE_FORMATTER" "Ljava/util/function/BiFunction;" .null (Ag s) s s.heap ∨ va_Z "jdk/internal/util/Preconditions" "SIOOBE_FORMATTER" "Ljava/util/function/BiFunction;" (.ref tf) (Ag s) s s.heap := by
    rcases gx_fm hts hs with h | ⟨t, h⟩
    · exact ⟨0, Or.inl h⟩
    · exact ⟨t, Or.inr h⟩
  obtain ⟨adK, adV, hS, hE⟩ := gs_all hs
  obtain ⟨ext, e0, e1, e2, e3, e4, eK, eV⟩ := ext_ex t0 t1 t2 tf b adK adV
  refine ⟨(s.heap.size, fun k => if k = 0 then c0 else if k = 1 then c1 else if k = 2 then c2 else if k = 3 then c3 else if k = 4 then c4 else if k = 5 then c5 else c6, fun k => if k = 0 then q0 else if k = 1 then q1 else if k = 2 then q2 else if k = 3 then q3 else if k = 4 then q4 else if k = 5 then q5 else q6, fun k => if k = 0 then g0 else if k = 1 then g1 else if k = 2 then g2 else if k = 3 then g3 else g4, ext), rfl, ⟨?_, ?_⟩, ?_, ?_⟩
  · intro k q hq
    match k, hq with
    | 0, hq => cases hq; exact hK0
    | 1, hq => cases hq; exact hK1
    | 2, hq => cases hq; exact hK2
    | 3, hq => cases hq; exact hK3
    | 4, hq => cases hq; exact hK4
    | 5, hq => cases hq; exact hK5
    | 6, hq => cases hq; exact hK6
    | k + 7, hq => simp [classes] at hq
  · intro k q hq
    match k, hq with
    | 0, hq => cases hq; exact ⟨ga0, gb0⟩
    | 1, hq => cases hq; exact ⟨ga1, gb1⟩
    | 2, hq => cases hq; exact ⟨ga2, gb2⟩
    | 3, hq => cases hq; exact ⟨ga3, gb3⟩
    | 4, hq => cases hq; exact ⟨ga4, gb4⟩
    | k + 5, hq => simp [tysG] at hq
  · refine ⟨⟨?_, ?_⟩, ⟨?_, ?_⟩, ⟨?_, ?_⟩, gx_cs hts hs, ⟨fun i hi => ?_, fun i j hi hj e => ?_⟩, fun i hi => ?_, ?_, ?_, ?_, ?_⟩
    · rw [ad_ge (by decide)]; show va_Z RX5 _ _ (.ref (ext (EXT + 200))) _ _ _; rw [e0]; exact z0
    · rw [ad_ge (by decide)]; show va_T .int (ext (EXT + 200)) _ _ _ _ _; rw [e0]; exact y0
    · rw [ad_ge (by decide)]; show va_Z RX1 _ _ (.ref (ext (EXT + 201))) _ _ _; rw [e1]; exact z1
    · rw [ad_ge (by decide)]; show va_T .int (ext (EXT + 201)) _ _ _ _ _; rw [e1]; exact y1
    · rw [ad_ge (by decide)]; show va_Z RX1 _ _ (.ref (ext (EXT + 202))) _ _ _; rw [e2]; exact z2
    · rw [ad_ge (by decide)]; show va_T .int (ext (EXT + 202)) _ _ _ _ _; rw [e2]; exact y2
    · have k := hS.1 i hi
      rw [← eK i hi, ← eV i hi] at k
      dsimp only
      rw [ad_ge (show ¬ EXT + i < EXT by omega), ad_ge (show ¬ EXT + 100 + i < EXT by omega)]
      exact k
    · refine hS.2 i j hi hj ?_
      dsimp only at e
      rw [ad_ge (show ¬ EXT + i < EXT by omega), ad_ge (show ¬ EXT + j < EXT by omega)] at e
      rw [← eK i hi, ← eK j hj]
      exact e
    · rw [ad_ge (show ¬ EXT + i < EXT by omega)]
      have k := hE i hi
      rw [← eK i hi] at k
      exact vk_R.of (gs_sr hts i hi) k
    · exact va_Nw.of (w := .methodLinkNest RX4 65 yX5_bitOf RX5) rfl (hts (.methodLinkNest RX4 65 yX5_bitOf RX5) (tw1 626 (by decide +kernel)))
    · exact va_AO.of (hts (.arrayOver (.object RX3)) (tw1 76 (by decide +kernel)))
    · exact va_AO.of (hts (.arrayOver (.object RX4)) (tw1 194 (by decide +kernel)))
    · rw [ad_ge (by decide)]
      show _ ∨ va_Z _ _ _ (.ref (ext (EXT + 300))) _ _ _
      rw [e3]
      exact hf
  · rw [ad_ge (by decide)]; exact e4
end LG
theorem whole_start {p : Program} {e : Env} {s : State} {m : MethodId} {below : List Frame} {meth : Method} {c : Code} (l : Launch) {b L : Nat} {xs : Nat → Int32} (hL : L ≤ 3072) (C0 : lw_At p s m meth c b L xs) : W p l e room_1 s m #[Value.ref b] below meth c s.heap [] 0 0 (lw_Z below #[Value.ref b] s) (entryFrame m ([Value.ref b] : List Value).toArray 4) := by
  obtain ⟨hx, hb, hr, hml, hown, hts, hX, hbl, hlocks, hgv⟩ := C0
  have hs := flat_of_before _ hgv
  obtain ⟨G, hG, hK, hg, had⟩ := gw_all hts hs
  have hle := LH.entry (G := G) (nL := 4) (vs := [.ref (EXT + 400)]) (by simp [Value.category])
  rw [show ([Value.ref (EXT + 400)] : List Value).map (cV G) = [Value.ref b] from by show [Value.ref (ad G (EXT + 400))] = _; rw [had]] at hle
  rw [lg_entry_eq]
  exact law_start (G := G) (b := b) (xs := xs) hL p l e s m #[Value.ref b] below meth c s.heap [] _ ⟨hx, hb, hr, hml, hown, fun w h => hts w (gw_in h), hlocks, hK, hg, Nat.le_of_eq hG⟩ ⟨rfl, hX, hbl, hG, had⟩ ⟨by rw [hG]; rfl, Nat.zero_le _, fun k e h => by cases h⟩ va_S.rf hle

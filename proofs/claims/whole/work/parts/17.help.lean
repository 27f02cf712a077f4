/-! HELPERS of the class: acts, findings, who is there -/
theorem j_ldcw {G : GG} {oR : String} {oc : ByteArray} {on : Nat} {ort : Option FieldType} {T : TG} {z kc ks pc : Nat} {σ : AH} {L : List (Option Value)} {st : List Value} {ix : Nat} (v : Int32) (hd : decode oc pc = .ok (.ldc_w ix, 3)) (hw0 : Cond.constant oR ix v ∈ gw) (k : J G oR oc on ort T z σ kc ks (pc + 3) L (.int v :: st)) : J G oR oc on ort T z σ kc ks pc L st := by
  intro p l e s m args below meth c H locs ls C X hw hS hL
  exact lv_ldcw C.1 C.2.1 C.2.2.2.2.1 (C.2.2.2.2.2.1 _ hw0) hd (k p l e s m args below meth c H locs ls C X hw hS hL)
theorem j_aaldL {G : GG} {oR : String} {oc : ByteArray} {on : Nat} {ort : Option FieldType} {T : TG} {z kc ks pc : Nat} {σ : AH} {L : List (Option Value)} {st : List Value} (kd n c0 c1 : Nat) {a k : Nat} {i : Int32} (hd : decode oc pc = .ok (.aaload, 1)) (he : σ a = some (.inr (.inl (kd, n, fun i => some (c0 + c1 * i))))) (hkd : kd = 3 ∨ kd = 4) (hi : i = nI k) (hk : k < n) (hn : n < 2 ^ 31)
    (kk : J G oR oc on ort T z σ kc ks (pc + 1) L (.ref (c0 + c1 * k) :: st)) : J G oR oc on ort T z σ kc ks pc L (.int i :: .ref a :: st) := j_aald hd he hkd hi hk hn rfl kk
theorem dX5_found_0 : decode cX5_found 0 = .ok (.aload_n 0, 1) := by decide +kernel
theorem dX5_found_1 : decode cX5_found 1 = .ok (.iload_n 1, 1) := by decide +kernel
theorem dX5_found_2 : decode cX5_found 2 = .ok (.putfield 255, 3) := by decide +kernel
theorem dX5_found_5 : decode cX5_found 5 = .ok (.ldc_w 258, 3) := by decide +kernel
theorem dX5_found_8 : decode cX5_found 8 = .ok (.iload_n 1, 1) := by decide +kernel
theorem dX5_found_9 : decode cX5_found 9 = .ok (.isub, 1) := by decide +kernel
theorem dX5_found_10 : decode cX5_found 10 = .ok (.ireturn, 1) := by decide +kernel
theorem dX5_foundNothing_0 : decode cX5_foundNothing 0 = .ok (.aload_n 0, 1) := by decide +kernel
theorem dX5_foundNothing_1 : decode cX5_foundNothing 1 = .ok (.iconst 0, 1) := by decide +kernel
theorem dX5_foundNothing_2 : decode cX5_foundNothing 2 = .ok (.putfield 255, 3) := by decide +kernel
theorem dX5_foundNothing_5 : decode cX5_foundNothing 5 = .ok (.iload_n 1, 1) := by decide +kernel
theorem dX5_foundNothing_6 : decode cX5_foundNothing 6 = .ok (.ireturn, 1) := by decide +kernel
theorem dX5_isNoRow_0 : decode cX5_isNoRow 0 = .ok (.iload_n 0, 1) := by decide +kernel
theorem dX5_isNoRow_1 : decode cX5_isNoRow 1 = .ok (.ifCond .lt 9, 3) := by decide +kernel
theorem dX5_isNoRow_4 : decode cX5_isNoRow 4 = .ok (.iload_n 0, 1) := by decide +kernel
theorem dX5_isNoRow_5 : decode cX5_isNoRow 5 = .ok (.bipush 8, 2) := by decide +kernel
theorem dX5_isNoRow_7 : decode cX5_isNoRow 7 = .ok (.if_icmp .lt 7, 3) := by decide +kernel
theorem dX5_isNoRow_10 : decode cX5_isNoRow 10 = .ok (.iconst 1, 1) := by decide +kernel
theorem dX5_isNoRow_11 : decode cX5_isNoRow 11 = .ok (.goto 4, 3) := by decide +kernel
theorem dX5_isNoRow_14 : decode cX5_isNoRow 14 = .ok (.iconst 0, 1) := by decide +kernel
theorem dX5_isNoRow_15 : decode cX5_isNoRow 15 = .ok (.ireturn, 1) := by decide +kernel
theorem dX5_isNoTown_0 : decode cX5_isNoTown 0 = .ok (.aload_n 0, 1) := by decide +kernel
theorem dX5_isNoTown_1 : decode cX5_isNoTown 1 = .ok (.getfield 26, 3) := by decide +kernel
theorem dX5_isNoTown_4 : decode cX5_isNoTown 4 = .ok (.getfield 131, 3) := by decide +kernel
theorem dX5_isNoTown_7 : decode cX5_isNoTown 7 = .ok (.ifCond .ne 7, 3) := by decide +kernel
theorem dX5_isNoTown_10 : decode cX5_isNoTown 10 = .ok (.iconst 1, 1) := by decide +kernel
theorem dX5_isNoTown_11 : decode cX5_isNoTown 11 = .ok (.goto 4, 3) := by decide +kernel
theorem dX5_isNoTown_14 : decode cX5_isNoTown 14 = .ok (.iconst 0, 1) := by decide +kernel
theorem dX5_isNoTown_15 : decode cX5_isNoTown 15 = .ok (.ireturn, 1) := by decide +kernel
theorem dX5_isNoPerson_0 : decode cX5_isNoPerson 0 = .ok (.iload_n 1, 1) := by decide +kernel
theorem dX5_isNoPerson_1 : decode cX5_isNoPerson 1 = .ok (.ifCond .lt 14, 3) := by decide +kernel
theorem dX5_isNoPerson_4 : decode cX5_isNoPerson 4 = .ok (.iload_n 1, 1) := by decide +kernel
theorem dX5_isNoPerson_5 : decode cX5_isNoPerson 5 = .ok (.aload_n 0, 1) := by decide +kernel
theorem dX5_isNoPerson_6 : decode cX5_isNoPerson 6 = .ok (.getfield 26, 3) := by decide +kernel
theorem dX5_isNoPerson_9 : decode cX5_isNoPerson 9 = .ok (.getfield 131, 3) := by decide +kernel
theorem dX5_isNoPerson_12 : decode cX5_isNoPerson 12 = .ok (.if_icmp .lt 7, 3) := by decide +kernel
theorem dX5_isNoPerson_15 : decode cX5_isNoPerson 15 = .ok (.iconst 1, 1) := by decide +kernel
theorem dX5_isNoPerson_16 : decode cX5_isNoPerson 16 = .ok (.goto 4, 3) := by decide +kernel
theorem dX5_isNoPerson_19 : decode cX5_isNoPerson 19 = .ok (.iconst 0, 1) := by decide +kernel
theorem dX5_isNoPerson_20 : decode cX5_isNoPerson 20 = .ok (.ireturn, 1) := by decide +kernel
theorem dX5_isNoPair_0 : decode cX5_isNoPair 0 = .ok (.aload_n 0, 1) := by decide +kernel
theorem dX5_isNoPair_1 : decode cX5_isNoPair 1 = .ok (.iload_n 1, 1) := by decide +kernel
theorem dX5_isNoPair_2 : decode cX5_isNoPair 2 = .ok (.invokevirtual 155, 3) := by decide +kernel
theorem dX5_isNoPair_5 : decode cX5_isNoPair 5 = .ok (.ifCond .ne 16, 3) := by decide +kernel
theorem dX5_isNoPair_8 : decode cX5_isNoPair 8 = .ok (.aload_n 0, 1) := by decide +kernel
theorem dX5_isNoPair_9 : decode cX5_isNoPair 9 = .ok (.iload_n 2, 1) := by decide +kernel
theorem dX5_isNoPair_10 : decode cX5_isNoPair 10 = .ok (.invokevirtual 155, 3) := by decide +kernel
theorem dX5_isNoPair_13 : decode cX5_isNoPair 13 = .ok (.ifCond .ne 8, 3) := by decide +kernel
theorem dX5_isNoPair_16 : decode cX5_isNoPair 16 = .ok (.iload_n 1, 1) := by decide +kernel
theorem dX5_isNoPair_17 : decode cX5_isNoPair 17 = .ok (.iload_n 2, 1) := by decide +kernel
theorem dX5_isNoPair_18 : decode cX5_isNoPair 18 = .ok (.if_icmp .ne 7, 3) := by decide +kernel
theorem dX5_isNoPair_21 : decode cX5_isNoPair 21 = .ok (.iconst 1, 1) := by decide +kernel
theorem dX5_isNoPair_22 : decode cX5_isNoPair 22 = .ok (.goto 4, 3) := by decide +kernel
theorem dX5_isNoPair_25 : decode cX5_isNoPair 25 = .ok (.iconst 0, 1) := by decide +kernel
theorem dX5_isNoPair_26 : decode cX5_isNoPair 26 = .ok (.ireturn, 1) := by decide +kernel
theorem ups_ups {σ : AH} {a : Nat} {e e2 : AE} : ups (ups σ a e) a e2 = ups σ a e2 := by
  funext k; unfold ups; split <;> rfl
/-- the place of the next act, behind one, ahead of one -/
def nxt (n : Nat) : Nat := if n + 1 < 24 then n + 1 else 0
def prv (n : Nat) : Nat := if 0 < n then n - 1 else 23
section H1
variable {G : GG} {z : Nat} {σ : AH} {lf fd : Int32} {rl rn : Nat → Int32} {ri : Nat → Nat → Int32} {tp rd : Nat → Int32} {dd d df : TS} {nx kp : Nat} {da di : Nat → TS} {tr : Nat} {bo ne : Nat → Int32}
theorem c_keep (X : XR σ lf fd rl rn ri tp rd dd d df nx kp da di tr bo ne) (hn : nx < 24) (hk : kp ≤ 24) : Ct G yX0_keep cX0_keep 2 none 3 0 0 z σ [.ref 35, .ref 25] none z (ups (twS σ (37 + 5 * nx) d) 35 (xA (nxt nx) (min (kp + 1) 24))) := by
  refine Ct.ofJ RX0 rfl [some (.ref 35), some (.ref 25)] rfl (by decide) Nat.le.refl ?_
  have X1 := X.act nx hn d
  have hm : (if nI 24 < nI (kp + 1) then nI 24 else nI (kp + 1)) = nI (min (kp + 1) 24) := by
    by_cases h : 24 < kp + 1
    · rw [if_pos (nI_lt h (by omega)), Nat.min_eq_right (by omega)]
    · rw [if_neg (nI_nlt (by omega) (by omega)), Nat.min_eq_left (by omega)]
  refine j_aload_n dX0_keep_0 rfl rfl ?_
  refine j_getf dX0_keep_1 0 0 rfl (Nat.le_of_ble_eq_true rfl) fl_X0_11 in_0 (by first | exact X.1 | exact X.2.1 | exact X.2.2.2.1 | exact X.2.2.2.2.1 | exact X.2.2.2.2.2.2.1.o | exact X.2.2.2.2.2.2.1.c | exact X.2.2.2.2.2.2.1.i | exact X.2.2.2.2.2.2.1.p | exact X.2.2.2.2.2.2.1.d | exact X.2.2.2.2.2.2.2.1.o | exact X.2.2.2.2.2.2.2.2.1 | exact X.2.2.2.2.2.2.2.2.2.1 | exact X.2.2.2.2.2.2.2.2.2.2.2.1 | exact X.2.2.2.2.2.2.2.2.2.2.2.2.2.1 | exact X.2.2.2.2.2.2.2.2.2.2.2.2.2.2.1 | exact X.2.2.2.2.2.2.2.2.2.2.2.2.2.2.2) rfl ?_
  refine j_aload_n dX0_keep_4 rfl rfl ?_
  refine j_getf dX0_keep_5 0 1 rfl (Nat.le_of_ble_eq_true rfl) fl_X0_18 in_0 (by first | exact X.1 | exact X.2.1 | exact X.2.2.2.1 | exact X.2.2.2.2.1 | exact X.2.2.2.2.2.2.1.o | exact X.2.2.2.2.2.2.1.c | exact X.2.2.2.2.2.2.1.i | exact X.2.2.2.2.2.2.1.p | exact X.2.2.2.2.2.2.1.d | exact X.2.2.2.2.2.2.2.1.o | exact X.2.2.2.2.2.2.2.2.1 | exact X.2.2.2.2.2.2.2.2.2.1 | exact X.2.2.2.2.2.2.2.2.2.2.2.1 | exact X.2.2.2.2.2.2.2.2.2.2.2.2.2.1 | exact X.2.2.2.2.2.2.2.2.2.2.2.2.2.2.1 | exact X.2.2.2.2.2.2.2.2.2.2.2.2.2.2.2) rfl ?_
  refine j_aaldL 4 24 37 5 dX0_keep_8 (by first | exact X.1 | exact X.2.1 | exact X.2.2.2.1 | exact X.2.2.2.2.1 | exact X.2.2.2.2.2.2.1.o | exact X.2.2.2.2.2.2.1.c | exact X.2.2.2.2.2.2.1.i | exact X.2.2.2.2.2.2.1.p | exact X.2.2.2.2.2.2.1.d | exact X.2.2.2.2.2.2.2.1.o | exact X.2.2.2.2.2.2.2.2.1 | exact X.2.2.2.2.2.2.2.2.2.1 | exact X.2.2.2.2.2.2.2.2.2.2.2.1 | exact X.2.2.2.2.2.2.2.2.2.2.2.2.2.1 | exact X.2.2.2.2.2.2.2.2.2.2.2.2.2.2.1 | exact X.2.2.2.2.2.2.2.2.2.2.2.2.2.2.2) (by decide) rfl hn (by decide) ?_
  refine j_aload_n dX0_keep_9 rfl rfl ?_
  refine j_callV (c_becomesS (X.2.2.2.2.2.2.2.2.2.2.1 nx hn) X.2.2.2.2.2.2.1 (Or.inl (by omega))) dX0_keep_10 rfl mv_X0_25 (X.2.2.2.2.2.2.2.2.2.2.1 nx hn).o rfl ⟨(Nat.le_of_ble_eq_true rfl), (Nat.le_of_ble_eq_true rfl)⟩ ⟨(Nat.le_of_ble_eq_true rfl), (Nat.le_of_ble_eq_true rfl)⟩ (Nat.le_of_ble_eq_true rfl) ?_
  refine j_aload_n dX0_keep_13 rfl rfl ?_
  refine j_aload_n dX0_keep_14 rfl rfl ?_
  refine j_getf dX0_keep_15 0 1 rfl (Nat.le_of_ble_eq_true rfl) fl_X0_18 in_0 X1.2.2.2.2.2.2.2.2.1 rfl ?_
  refine j_iconst (nI 1) dX0_keep_18 rfl ?_
  first | refine j_iaddN dX0_keep_19 ?_ | refine j_iadd dX0_keep_19 ?_
  refine j_bipush (nI 24) dX0_keep_20 rfl ?_
  refine j_icmp_geN 34 dX0_keep_22 (by decide) (by omega) (by omega) (fun b22 => ?_) (fun b22 => ?_)
  · refine j_iconst (nI 0) dX0_keep_34 rfl ?_
    refine j_putf dX0_keep_35 0 1 rfl (Nat.le_of_ble_eq_true rfl) fl_X0_18 in_0 tyX0 tyX0_ok nmX0 rfl rfl X1.2.2.2.2.2.2.2.2.1 (Nat.le_of_ble_eq_true rfl) _ rfl ?_
    refine j_aload_n dX0_keep_38 rfl rfl ?_
    refine j_aload_n dX0_keep_39 rfl rfl ?_
    refine j_getf dX0_keep_40 0 2 rfl (Nat.le_of_ble_eq_true rfl) fl_X0_22 in_0 ups_a rfl ?_
    refine j_iconst (nI 1) dX0_keep_43 rfl ?_
    first | refine j_iaddN dX0_keep_44 ?_ | refine j_iadd dX0_keep_44 ?_
    refine j_bipush (nI 24) dX0_keep_45 rfl ?_
    refine j_min dX0_keep_47 mm_X0_29 (Nat.le_of_ble_eq_true rfl) (Nat.le_of_ble_eq_true rfl) (Nat.le_of_ble_eq_true rfl) (Nat.le_of_ble_eq_true rfl) ?_
    refine j_putf dX0_keep_50 0 2 rfl (Nat.le_of_ble_eq_true rfl) fl_X0_22 in_0 tyX0 tyX0_ok nmX0 rfl rfl ups_a (Nat.le_of_ble_eq_true rfl) _ rfl ?_
    exact j_vret rfl dX0_keep_53 (by rw [ups_ups, hm]; unfold nxt; (first | rw [if_pos (show nx + 1 < 24 from b22)] | rw [if_neg (show ¬ nx + 1 < 24 from Nat.not_lt.mpr b22)]); rfl) (Nat.le_of_ble_eq_true rfl) (Nat.le_of_ble_eq_true rfl)
  · refine j_aload_n dX0_keep_25 rfl rfl ?_
    refine j_getf dX0_keep_26 0 1 rfl (Nat.le_of_ble_eq_true rfl) fl_X0_18 in_0 X1.2.2.2.2.2.2.2.2.1 rfl ?_
    refine j_iconst (nI 1) dX0_keep_29 rfl ?_
    first | refine j_iaddN dX0_keep_30 ?_ | refine j_iadd dX0_keep_30 ?_
    refine j_goto 35 dX0_keep_31 (by decide) ?_
    refine j_putf dX0_keep_35 0 1 rfl (Nat.le_of_ble_eq_true rfl) fl_X0_18 in_0 tyX0 tyX0_ok nmX0 rfl rfl X1.2.2.2.2.2.2.2.2.1 (Nat.le_of_ble_eq_true rfl) _ rfl ?_
    refine j_aload_n dX0_keep_38 rfl rfl ?_
    refine j_aload_n dX0_keep_39 rfl rfl ?_
    refine j_getf dX0_keep_40 0 2 rfl (Nat.le_of_ble_eq_true rfl) fl_X0_22 in_0 ups_a rfl ?_
    refine j_iconst (nI 1) dX0_keep_43 rfl ?_
    first | refine j_iaddN dX0_keep_44 ?_ | refine j_iadd dX0_keep_44 ?_
    refine j_bipush (nI 24) dX0_keep_45 rfl ?_
    refine j_min dX0_keep_47 mm_X0_29 (Nat.le_of_ble_eq_true rfl) (Nat.le_of_ble_eq_true rfl) (Nat.le_of_ble_eq_true rfl) (Nat.le_of_ble_eq_true rfl) ?_
    refine j_putf dX0_keep_50 0 2 rfl (Nat.le_of_ble_eq_true rfl) fl_X0_22 in_0 tyX0 tyX0_ok nmX0 rfl rfl ups_a (Nat.le_of_ble_eq_true rfl) _ rfl ?_
    exact j_vret rfl dX0_keep_53 (by rw [ups_ups, hm]; unfold nxt; (first | rw [if_pos (show nx + 1 < 24 from b22)] | rw [if_neg (show ¬ nx + 1 < 24 from Nat.not_lt.mpr b22)]); rfl) (Nat.le_of_ble_eq_true rfl) (Nat.le_of_ble_eq_true rfl)
theorem c_takeBack (X : XR σ lf fd rl rn ri tp rd dd d df nx kp da di tr bo ne) (hn : nx < 24) (hk : kp ≤ 24) (hk0 : 1 ≤ kp) : Ct G yX0_takeBack cX0_takeBack 2 none 3 0 0 z σ [.ref 35, .ref 25] none z (twS (ups σ 35 (xA (prv nx) (kp - 1))) 25 (da (prv nx))) := by
  refine Ct.ofJ RX0 rfl [some (.ref 35), some (.ref 25)] rfl (by decide) Nat.le.refl ?_
  have hp : prv nx < 24 := by unfold prv; split <;> omega
  have X2 := X.acts (prv nx) (kp - 1)
  have H : J G RX0 cX0_takeBack 2 none (TQ G 3 0 0 none z (twS (ups σ 35 (xA (prv nx) (kp - 1))) 25 (da (prv nx)))) z (ups σ 35 (xA (prv nx) kp)) 0 0 22 [some (.ref 35), some (.ref 25)] [] := by
    refine j_aload_n dX0_takeBack_22 rfl rfl ?_
    refine j_dup dX0_takeBack_23 rfl ?_
    refine j_getf dX0_takeBack_24 0 2 rfl (Nat.le_of_ble_eq_true rfl) fl_X0_22 in_0 (by first | exact ups_a | exact X2.2.2.2.2.2.2.2.2.1 | exact X2.2.2.2.2.2.2.2.2.2.1 | exact X2.2.2.2.2.2.2.1.o) rfl ?_
    refine j_iconst (nI 1) dX0_takeBack_27 rfl ?_
    refine j_isubN dX0_takeBack_28 hk0 ?_
    refine j_putf dX0_takeBack_29 0 2 rfl (Nat.le_of_ble_eq_true rfl) fl_X0_22 in_0 tyX0 tyX0_ok nmX0 rfl rfl (by first | exact ups_a | exact X2.2.2.2.2.2.2.2.2.1 | exact X2.2.2.2.2.2.2.2.2.2.1 | exact X2.2.2.2.2.2.2.1.o) (Nat.le_of_ble_eq_true rfl) _ (show _ = ups σ 35 (xA (prv nx) (kp - 1)) from by funext k; unfold ups; split <;> rfl) ?_
    refine j_aload_n dX0_takeBack_32 rfl rfl ?_
    refine j_aload_n dX0_takeBack_33 rfl rfl ?_
    refine j_getf dX0_takeBack_34 0 0 rfl (Nat.le_of_ble_eq_true rfl) fl_X0_11 in_0 (by first | exact ups_a | exact X2.2.2.2.2.2.2.2.2.1 | exact X2.2.2.2.2.2.2.2.2.2.1 | exact X2.2.2.2.2.2.2.1.o) rfl ?_
    refine j_aload_n dX0_takeBack_37 rfl rfl ?_
    refine j_getf dX0_takeBack_38 0 1 rfl (Nat.le_of_ble_eq_true rfl) fl_X0_18 in_0 (by first | exact ups_a | exact X2.2.2.2.2.2.2.2.2.1 | exact X2.2.2.2.2.2.2.2.2.2.1 | exact X2.2.2.2.2.2.2.1.o) rfl ?_
    refine j_aaldL 4 24 37 5 dX0_takeBack_41 (by first | exact ups_a | exact X2.2.2.2.2.2.2.2.2.1 | exact X2.2.2.2.2.2.2.2.2.2.1 | exact X2.2.2.2.2.2.2.1.o) (by decide) rfl hp (by decide) ?_
    refine j_callV (c_becomesS X2.2.2.2.2.2.2.1 (X2.2.2.2.2.2.2.2.2.2.2.1 (prv nx) hp) (Or.inr (by omega))) dX0_takeBack_42 rfl mv_X0_25 (by first | exact ups_a | exact X2.2.2.2.2.2.2.2.2.1 | exact X2.2.2.2.2.2.2.2.2.2.1 | exact X2.2.2.2.2.2.2.1.o) rfl ⟨(Nat.le_of_ble_eq_true rfl), (Nat.le_of_ble_eq_true rfl)⟩ ⟨(Nat.le_of_ble_eq_true rfl), (Nat.le_of_ble_eq_true rfl)⟩ (Nat.le_of_ble_eq_true rfl) ?_
    exact j_vret rfl dX0_takeBack_45 rfl (Nat.le_of_ble_eq_true rfl) (Nat.le_of_ble_eq_true rfl)
  refine j_aload_n dX0_takeBack_0 rfl rfl ?_
  refine j_aload_n dX0_takeBack_1 rfl rfl ?_
  refine j_getf dX0_takeBack_2 0 1 rfl (Nat.le_of_ble_eq_true rfl) fl_X0_18 in_0 (by first | exact X.1 | exact X.2.1 | exact X.2.2.2.1 | exact X.2.2.2.2.1 | exact X.2.2.2.2.2.2.1.o | exact X.2.2.2.2.2.2.1.c | exact X.2.2.2.2.2.2.1.i | exact X.2.2.2.2.2.2.1.p | exact X.2.2.2.2.2.2.1.d | exact X.2.2.2.2.2.2.2.1.o | exact X.2.2.2.2.2.2.2.2.1 | exact X.2.2.2.2.2.2.2.2.2.1 | exact X.2.2.2.2.2.2.2.2.2.2.2.1 | exact X.2.2.2.2.2.2.2.2.2.2.2.2.2.1 | exact X.2.2.2.2.2.2.2.2.2.2.2.2.2.2.1 | exact X.2.2.2.2.2.2.2.2.2.2.2.2.2.2.2) rfl ?_
  refine j_if_le 17 dX0_takeBack_5 (by decide) (fun b5 => ?_) (fun b5 => ?_)
  · refine j_bipush (nI 23) dX0_takeBack_17 rfl ?_
    skip
    refine j_putf dX0_takeBack_19 0 1 rfl (Nat.le_of_ble_eq_true rfl) fl_X0_18 in_0 tyX0 tyX0_ok nmX0 rfl rfl (by first | exact X.1 | exact X.2.1 | exact X.2.2.2.1 | exact X.2.2.2.2.1 | exact X.2.2.2.2.2.2.1.o | exact X.2.2.2.2.2.2.1.c | exact X.2.2.2.2.2.2.1.i | exact X.2.2.2.2.2.2.1.p | exact X.2.2.2.2.2.2.1.d | exact X.2.2.2.2.2.2.2.1.o | exact X.2.2.2.2.2.2.2.2.1 | exact X.2.2.2.2.2.2.2.2.2.1 | exact X.2.2.2.2.2.2.2.2.2.2.2.1 | exact X.2.2.2.2.2.2.2.2.2.2.2.2.2.1 | exact X.2.2.2.2.2.2.2.2.2.2.2.2.2.2.1 | exact X.2.2.2.2.2.2.2.2.2.2.2.2.2.2.2) (Nat.le_of_ble_eq_true rfl) _ rfl ?_
    refine Eq.mp ?_ H
    unfold prv
    first | (rw [if_pos (show 0 < nx from Nat.pos_of_ne_zero (fun h => b5 (by subst h; decide)))]) | (rw [if_neg (show ¬ 0 < nx from fun q => absurd b5 (nI_nle q (by omega)))])
    rfl
  · refine j_aload_n dX0_takeBack_8 rfl rfl ?_
    refine j_getf dX0_takeBack_9 0 1 rfl (Nat.le_of_ble_eq_true rfl) fl_X0_18 in_0 (by first | exact X.1 | exact X.2.1 | exact X.2.2.2.1 | exact X.2.2.2.2.1 | exact X.2.2.2.2.2.2.1.o | exact X.2.2.2.2.2.2.1.c | exact X.2.2.2.2.2.2.1.i | exact X.2.2.2.2.2.2.1.p | exact X.2.2.2.2.2.2.1.d | exact X.2.2.2.2.2.2.2.1.o | exact X.2.2.2.2.2.2.2.2.1 | exact X.2.2.2.2.2.2.2.2.2.1 | exact X.2.2.2.2.2.2.2.2.2.2.2.1 | exact X.2.2.2.2.2.2.2.2.2.2.2.2.2.1 | exact X.2.2.2.2.2.2.2.2.2.2.2.2.2.2.1 | exact X.2.2.2.2.2.2.2.2.2.2.2.2.2.2.2) rfl ?_
    refine j_iconst (nI 1) dX0_takeBack_12 rfl ?_
    refine j_isubN dX0_takeBack_13 (Nat.pos_of_ne_zero (fun h => b5 (by subst h; decide))) ?_
    refine j_goto 19 dX0_takeBack_14 (by decide) ?_
    skip
    refine j_putf dX0_takeBack_19 0 1 rfl (Nat.le_of_ble_eq_true rfl) fl_X0_18 in_0 tyX0 tyX0_ok nmX0 rfl rfl (by first | exact X.1 | exact X.2.1 | exact X.2.2.2.1 | exact X.2.2.2.2.1 | exact X.2.2.2.2.2.2.1.o | exact X.2.2.2.2.2.2.1.c | exact X.2.2.2.2.2.2.1.i | exact X.2.2.2.2.2.2.1.p | exact X.2.2.2.2.2.2.1.d | exact X.2.2.2.2.2.2.2.1.o | exact X.2.2.2.2.2.2.2.2.1 | exact X.2.2.2.2.2.2.2.2.2.1 | exact X.2.2.2.2.2.2.2.2.2.2.2.1 | exact X.2.2.2.2.2.2.2.2.2.2.2.2.2.1 | exact X.2.2.2.2.2.2.2.2.2.2.2.2.2.2.1 | exact X.2.2.2.2.2.2.2.2.2.2.2.2.2.2.2) (Nat.le_of_ble_eq_true rfl) _ rfl ?_
    refine Eq.mp ?_ H
    unfold prv
    first | (rw [if_pos (show 0 < nx from Nat.pos_of_ne_zero (fun h => b5 (by subst h; decide)))]) | (rw [if_neg (show ¬ 0 < nx from fun q => absurd b5 (nI_nle q (by omega)))])
    rfl
theorem c_found (X : XR σ lf fd rl rn ri tp rd dd d df nx kp da di tr bo ne) (x : Int32) : Ct G yX5_found cX5_found 2 (some .int) 1 0 0 z σ [.ref 0, .int x] (some (.int (-1000010 - x))) z (ups σ 0 (xO lf x)) := by
  refine Ct.ofJ RX5 rfl [some (.ref 0), some (.int x)] rfl (by decide) Nat.le.refl ?_
  refine j_aload_n dX5_found_0 rfl rfl ?_
  refine j_iload_n dX5_found_1 rfl rfl ?_
  refine j_putf dX5_found_2 5 3 rfl (Nat.le_of_ble_eq_true rfl) fl_X5_255 in_5 tyX5 tyX5_ok nmX5 rfl rfl (by first | exact X.1 | exact X.2.1 | exact X.2.2.2.1 | exact X.2.2.2.2.1 | exact X.2.2.2.2.2.2.1.o | exact X.2.2.2.2.2.2.1.c | exact X.2.2.2.2.2.2.1.i | exact X.2.2.2.2.2.2.1.p | exact X.2.2.2.2.2.2.1.d | exact X.2.2.2.2.2.2.2.1.o | exact X.2.2.2.2.2.2.2.2.1 | exact X.2.2.2.2.2.2.2.2.2.1 | exact X.2.2.2.2.2.2.2.2.2.2.2.1 | exact X.2.2.2.2.2.2.2.2.2.2.2.2.2.1 | exact X.2.2.2.2.2.2.2.2.2.2.2.2.2.2.1 | exact X.2.2.2.2.2.2.2.2.2.2.2.2.2.2.2) (Nat.le_of_ble_eq_true rfl) _ rfl ?_
  refine j_ldcw (-1000010) dX5_found_5 kc_X5_258 ?_
  refine j_iload_n dX5_found_8 rfl rfl ?_
  refine j_isub dX5_found_9 ?_
  exact j_iret rfl dX5_found_10 rfl rfl (Nat.le_of_ble_eq_true rfl) (Nat.le_of_ble_eq_true rfl)
theorem c_foundNothing (X : XR σ lf fd rl rn ri tp rd dd d df nx kp da di tr bo ne) (x : Int32) : Ct G yX5_foundNothing cX5_foundNothing 2 (some .int) 1 0 0 z σ [.ref 0, .int x] (some (.int x)) z (ups σ 0 (xO lf (nI 0))) := by
  refine Ct.ofJ RX5 rfl [some (.ref 0), some (.int x)] rfl (by decide) Nat.le.refl ?_
  refine j_aload_n dX5_foundNothing_0 rfl rfl ?_
  refine j_iconst (nI 0) dX5_foundNothing_1 rfl ?_
  refine j_putf dX5_foundNothing_2 5 3 rfl (Nat.le_of_ble_eq_true rfl) fl_X5_255 in_5 tyX5 tyX5_ok nmX5 rfl rfl (by first | exact X.1 | exact X.2.1 | exact X.2.2.2.1 | exact X.2.2.2.2.1 | exact X.2.2.2.2.2.2.1.o | exact X.2.2.2.2.2.2.1.c | exact X.2.2.2.2.2.2.1.i | exact X.2.2.2.2.2.2.1.p | exact X.2.2.2.2.2.2.1.d | exact X.2.2.2.2.2.2.2.1.o | exact X.2.2.2.2.2.2.2.2.1 | exact X.2.2.2.2.2.2.2.2.2.1 | exact X.2.2.2.2.2.2.2.2.2.2.2.1 | exact X.2.2.2.2.2.2.2.2.2.2.2.2.2.1 | exact X.2.2.2.2.2.2.2.2.2.2.2.2.2.2.1 | exact X.2.2.2.2.2.2.2.2.2.2.2.2.2.2.2) (Nat.le_of_ble_eq_true rfl) _ rfl ?_
  refine j_iload_n dX5_foundNothing_5 rfl rfl ?_
  exact j_iret rfl dX5_foundNothing_6 rfl rfl (Nat.le_of_ble_eq_true rfl) (Nat.le_of_ble_eq_true rfl)
def nrI (r : Int32) : Int32 := if r < 0 then nI 1 else if r < nI 8 then nI 0 else nI 1
theorem c_isNoRow (r : Int32) : Ct G yX5_isNoRow cX5_isNoRow 1 (some .boolean) 1 0 0 z σ [.int r] (some (.int (nrI r))) z σ := by
  refine Ct.ofJ RX5 rfl [some (.int r)] rfl (by decide) Nat.le.refl ?_
  refine j_iload_n dX5_isNoRow_0 rfl rfl ?_
  refine j_if_lt 10 dX5_isNoRow_1 (by decide) (fun b1 => ?_) (fun b1 => ?_)
  · refine j_iconst (nI 1) dX5_isNoRow_10 rfl ?_
    refine j_goto 15 dX5_isNoRow_11 (by decide) ?_
    exact j_zret .boolean rfl rfl dX5_isNoRow_15 (by unfold nrI; (repeat' (first | contradiction | rfl | split))) rfl (Nat.le_of_ble_eq_true rfl) (Nat.le_of_ble_eq_true rfl)
  · refine j_iload_n dX5_isNoRow_4 rfl rfl ?_
    refine j_bipush (nI 8) dX5_isNoRow_5 rfl ?_
    refine j_icmp_lt 14 dX5_isNoRow_7 (by decide) (fun b7 => ?_) (fun b7 => ?_)
    · refine j_iconst (nI 0) dX5_isNoRow_14 rfl ?_
      exact j_zret .boolean rfl rfl dX5_isNoRow_15 (by unfold nrI; (repeat' (first | contradiction | rfl | split))) rfl (Nat.le_of_ble_eq_true rfl) (Nat.le_of_ble_eq_true rfl)
    · refine j_iconst (nI 1) dX5_isNoRow_10 rfl ?_
      refine j_goto 15 dX5_isNoRow_11 (by decide) ?_
      exact j_zret .boolean rfl rfl dX5_isNoRow_15 (by unfold nrI; (repeat' (first | contradiction | rfl | split))) rfl (Nat.le_of_ble_eq_true rfl) (Nat.le_of_ble_eq_true rfl)
def ntI (N : Nat) : Int32 := if nI N = 0 then nI 1 else nI 0
theorem c_isNoTown (X : XR σ lf fd rl rn ri tp rd dd d df nx kp da di tr bo ne) : Ct G yX5_isNoTown cX5_isNoTown 1 (some .boolean) 1 0 0 z σ [.ref 0] (some (.int (ntI (sN d)))) z σ := by
  refine Ct.ofJ RX5 rfl [some (.ref 0)] rfl (by decide) Nat.le.refl ?_
  refine j_aload_n dX5_isNoTown_0 rfl rfl ?_
  refine j_getf dX5_isNoTown_1 5 4 rfl (Nat.le_of_ble_eq_true rfl) fl_X5_26 in_5 (by first | exact X.1 | exact X.2.1 | exact X.2.2.2.1 | exact X.2.2.2.2.1 | exact X.2.2.2.2.2.2.1.o | exact X.2.2.2.2.2.2.1.c | exact X.2.2.2.2.2.2.1.i | exact X.2.2.2.2.2.2.1.p | exact X.2.2.2.2.2.2.1.d | exact X.2.2.2.2.2.2.2.1.o | exact X.2.2.2.2.2.2.2.2.1 | exact X.2.2.2.2.2.2.2.2.2.1 | exact X.2.2.2.2.2.2.2.2.2.2.2.1 | exact X.2.2.2.2.2.2.2.2.2.2.2.2.2.1 | exact X.2.2.2.2.2.2.2.2.2.2.2.2.2.2.1 | exact X.2.2.2.2.2.2.2.2.2.2.2.2.2.2.2) rfl ?_
  refine j_getf dX5_isNoTown_4 4 4 rfl (Nat.le_of_ble_eq_true rfl) fl_X5_131 in_4 (by first | exact X.1 | exact X.2.1 | exact X.2.2.2.1 | exact X.2.2.2.2.1 | exact X.2.2.2.2.2.2.1.o | exact X.2.2.2.2.2.2.1.c | exact X.2.2.2.2.2.2.1.i | exact X.2.2.2.2.2.2.1.p | exact X.2.2.2.2.2.2.1.d | exact X.2.2.2.2.2.2.2.1.o | exact X.2.2.2.2.2.2.2.2.1 | exact X.2.2.2.2.2.2.2.2.2.1 | exact X.2.2.2.2.2.2.2.2.2.2.2.1 | exact X.2.2.2.2.2.2.2.2.2.2.2.2.2.1 | exact X.2.2.2.2.2.2.2.2.2.2.2.2.2.2.1 | exact X.2.2.2.2.2.2.2.2.2.2.2.2.2.2.2) rfl ?_
  refine j_if_ne 14 dX5_isNoTown_7 (by decide) (fun b7 => ?_) (fun b7 => ?_)
  · refine j_iconst (nI 0) dX5_isNoTown_14 rfl ?_
    exact j_zret .boolean rfl rfl dX5_isNoTown_15 (by unfold ntI; (repeat' (first | contradiction | rfl | split))) rfl (Nat.le_of_ble_eq_true rfl) (Nat.le_of_ble_eq_true rfl)
  · refine j_iconst (nI 1) dX5_isNoTown_10 rfl ?_
    refine j_goto 15 dX5_isNoTown_11 (by decide) ?_
    exact j_zret .boolean rfl rfl dX5_isNoTown_15 (by unfold ntI; (repeat' (first | contradiction | rfl | split))) rfl (Nat.le_of_ble_eq_true rfl) (Nat.le_of_ble_eq_true rfl)
def npI (p : Int32) (N : Nat) : Int32 := if p < 0 then nI 1 else if p < nI N then nI 0 else nI 1
theorem c_isNoPerson (X : XR σ lf fd rl rn ri tp rd dd d df nx kp da di tr bo ne) (p : Int32) : Ct G yX5_isNoPerson cX5_isNoPerson 2 (some .boolean) 1 0 0 z σ [.ref 0, .int p] (some (.int (npI p (sN d)))) z σ := by
  refine Ct.ofJ RX5 rfl [some (.ref 0), some (.int p)] rfl (by decide) Nat.le.refl ?_
  refine j_iload_n dX5_isNoPerson_0 rfl rfl ?_
  refine j_if_lt 15 dX5_isNoPerson_1 (by decide) (fun b1 => ?_) (fun b1 => ?_)
  · refine j_iconst (nI 1) dX5_isNoPerson_15 rfl ?_
    refine j_goto 20 dX5_isNoPerson_16 (by decide) ?_
    exact j_zret .boolean rfl rfl dX5_isNoPerson_20 (by unfold npI; (repeat' (first | contradiction | rfl | split))) rfl (Nat.le_of_ble_eq_true rfl) (Nat.le_of_ble_eq_true rfl)
  · refine j_iload_n dX5_isNoPerson_4 rfl rfl ?_
    refine j_aload_n dX5_isNoPerson_5 rfl rfl ?_
    refine j_getf dX5_isNoPerson_6 5 4 rfl (Nat.le_of_ble_eq_true rfl) fl_X5_26 in_5 (by first | exact X.1 | exact X.2.1 | exact X.2.2.2.1 | exact X.2.2.2.2.1 | exact X.2.2.2.2.2.2.1.o | exact X.2.2.2.2.2.2.1.c | exact X.2.2.2.2.2.2.1.i | exact X.2.2.2.2.2.2.1.p | exact X.2.2.2.2.2.2.1.d | exact X.2.2.2.2.2.2.2.1.o | exact X.2.2.2.2.2.2.2.2.1 | exact X.2.2.2.2.2.2.2.2.2.1 | exact X.2.2.2.2.2.2.2.2.2.2.2.1 | exact X.2.2.2.2.2.2.2.2.2.2.2.2.2.1 | exact X.2.2.2.2.2.2.2.2.2.2.2.2.2.2.1 | exact X.2.2.2.2.2.2.2.2.2.2.2.2.2.2.2) rfl ?_
    refine j_getf dX5_isNoPerson_9 4 4 rfl (Nat.le_of_ble_eq_true rfl) fl_X5_131 in_4 (by first | exact X.1 | exact X.2.1 | exact X.2.2.2.1 | exact X.2.2.2.2.1 | exact X.2.2.2.2.2.2.1.o | exact X.2.2.2.2.2.2.1.c | exact X.2.2.2.2.2.2.1.i | exact X.2.2.2.2.2.2.1.p | exact X.2.2.2.2.2.2.1.d | exact X.2.2.2.2.2.2.2.1.o | exact X.2.2.2.2.2.2.2.2.1 | exact X.2.2.2.2.2.2.2.2.2.1 | exact X.2.2.2.2.2.2.2.2.2.2.2.1 | exact X.2.2.2.2.2.2.2.2.2.2.2.2.2.1 | exact X.2.2.2.2.2.2.2.2.2.2.2.2.2.2.1 | exact X.2.2.2.2.2.2.2.2.2.2.2.2.2.2.2) rfl ?_
    refine j_icmp_lt 19 dX5_isNoPerson_12 (by decide) (fun b12 => ?_) (fun b12 => ?_)
    · refine j_iconst (nI 0) dX5_isNoPerson_19 rfl ?_
      exact j_zret .boolean rfl rfl dX5_isNoPerson_20 (by unfold npI; (repeat' (first | contradiction | rfl | split))) rfl (Nat.le_of_ble_eq_true rfl) (Nat.le_of_ble_eq_true rfl)
    · refine j_iconst (nI 1) dX5_isNoPerson_15 rfl ?_
      refine j_goto 20 dX5_isNoPerson_16 (by decide) ?_
      exact j_zret .boolean rfl rfl dX5_isNoPerson_20 (by unfold npI; (repeat' (first | contradiction | rfl | split))) rfl (Nat.le_of_ble_eq_true rfl) (Nat.le_of_ble_eq_true rfl)
def nqI (a b : Int32) (N : Nat) : Int32 := if npI a N = 0 then (if npI b N = 0 then (if a = b then nI 1 else nI 0) else nI 1) else nI 1
theorem c_isNoPair (X : XR σ lf fd rl rn ri tp rd dd d df nx kp da di tr bo ne) (a b : Int32) : Ct G yX5_isNoPair cX5_isNoPair 3 (some .boolean) 2 0 0 z σ [.ref 0, .int a, .int b] (some (.int (nqI a b (sN d)))) z σ := by
  refine Ct.ofJ RX5 rfl [some (.ref 0), some (.int a), some (.int b)] rfl (by decide) Nat.le.refl ?_
  refine j_aload_n dX5_isNoPair_0 rfl rfl ?_
  refine j_iload_n dX5_isNoPair_1 rfl rfl ?_
  refine j_callV (c_isNoPerson X a) dX5_isNoPair_2 rfl mv_X5_155 (by first | exact X.1 | exact X.2.1 | exact X.2.2.2.1 | exact X.2.2.2.2.1 | exact X.2.2.2.2.2.2.1.o | exact X.2.2.2.2.2.2.1.c | exact X.2.2.2.2.2.2.1.i | exact X.2.2.2.2.2.2.1.p | exact X.2.2.2.2.2.2.1.d | exact X.2.2.2.2.2.2.2.1.o | exact X.2.2.2.2.2.2.2.2.1 | exact X.2.2.2.2.2.2.2.2.2.1 | exact X.2.2.2.2.2.2.2.2.2.2.2.1 | exact X.2.2.2.2.2.2.2.2.2.2.2.2.2.1 | exact X.2.2.2.2.2.2.2.2.2.2.2.2.2.2.1 | exact X.2.2.2.2.2.2.2.2.2.2.2.2.2.2.2) rfl ⟨(Nat.le_of_ble_eq_true rfl), (Nat.le_of_ble_eq_true rfl)⟩ ⟨(Nat.le_of_ble_eq_true rfl), (Nat.le_of_ble_eq_true rfl)⟩ (Nat.le_of_ble_eq_true rfl) ?_
  refine j_if_ne 21 dX5_isNoPair_5 (by decide) (fun b5 => ?_) (fun b5 => ?_)
  · refine j_iconst (nI 1) dX5_isNoPair_21 rfl ?_
    refine j_goto 26 dX5_isNoPair_22 (by decide) ?_
    exact j_zret .boolean rfl rfl dX5_isNoPair_26 (by unfold nqI; (repeat' (first | contradiction | rfl | split))) rfl (Nat.le_of_ble_eq_true rfl) (Nat.le_of_ble_eq_true rfl)
  · refine j_aload_n dX5_isNoPair_8 rfl rfl ?_
    refine j_iload_n dX5_isNoPair_9 rfl rfl ?_
    refine j_callV (c_isNoPerson X b) dX5_isNoPair_10 rfl mv_X5_155 (by first | exact X.1 | exact X.2.1 | exact X.2.2.2.1 | exact X.2.2.2.2.1 | exact X.2.2.2.2.2.2.1.o | exact X.2.2.2.2.2.2.1.c | exact X.2.2.2.2.2.2.1.i | exact X.2.2.2.2.2.2.1.p | exact X.2.2.2.2.2.2.1.d | exact X.2.2.2.2.2.2.2.1.o | exact X.2.2.2.2.2.2.2.2.1 | exact X.2.2.2.2.2.2.2.2.2.1 | exact X.2.2.2.2.2.2.2.2.2.2.2.1 | exact X.2.2.2.2.2.2.2.2.2.2.2.2.2.1 | exact X.2.2.2.2.2.2.2.2.2.2.2.2.2.2.1 | exact X.2.2.2.2.2.2.2.2.2.2.2.2.2.2.2) rfl ⟨(Nat.le_of_ble_eq_true rfl), (Nat.le_of_ble_eq_true rfl)⟩ ⟨(Nat.le_of_ble_eq_true rfl), (Nat.le_of_ble_eq_true rfl)⟩ (Nat.le_of_ble_eq_true rfl) ?_
    refine j_if_ne 21 dX5_isNoPair_13 (by decide) (fun b13 => ?_) (fun b13 => ?_)
    · refine j_iconst (nI 1) dX5_isNoPair_21 rfl ?_
      refine j_goto 26 dX5_isNoPair_22 (by decide) ?_
      exact j_zret .boolean rfl rfl dX5_isNoPair_26 (by unfold nqI; (repeat' (first | contradiction | rfl | split))) rfl (Nat.le_of_ble_eq_true rfl) (Nat.le_of_ble_eq_true rfl)
    · refine j_iload_n dX5_isNoPair_16 rfl rfl ?_
      refine j_iload_n dX5_isNoPair_17 rfl rfl ?_
      refine j_icmp_ne 25 dX5_isNoPair_18 (by decide) (fun b18 => ?_) (fun b18 => ?_)
      · refine j_iconst (nI 0) dX5_isNoPair_25 rfl ?_
        exact j_zret .boolean rfl rfl dX5_isNoPair_26 (by unfold nqI; (repeat' (first | contradiction | rfl | split))) rfl (Nat.le_of_ble_eq_true rfl) (Nat.le_of_ble_eq_true rfl)
      · refine j_iconst (nI 1) dX5_isNoPair_21 rfl ?_
        refine j_goto 26 dX5_isNoPair_22 (by decide) ?_
        exact j_zret .boolean rfl rfl dX5_isNoPair_26 (by unfold nqI; (repeat' (first | contradiction | rfl | split))) rfl (Nat.le_of_ble_eq_true rfl) (Nat.le_of_ble_eq_true rfl)
end H1

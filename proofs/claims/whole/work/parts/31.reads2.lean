/-! THE READER: people, debts, a town -/
noncomputable def rPer (tp : Nat → Int32) (len : Nat) (r : RS) (s : TS) : Bool × RS × TS :=
  if (tWord tp len 1 r).1 = true then
    if (tNum tp len (nI 0) (nI 999) (-1) (tWord tp len 1 r).2).1 = true then
      if (tNum tp len (nI 0) (nI 99) (-1) (tNum tp len (nI 0) (nI 999) (-1) (tWord tp len 1 r).2).2).1 = true then
        if (tWord tp len (if atI tp (tNum tp len (nI 0) (nI 99) (-1) (tNum tp len (nI 0) (nI 999) (-1) (tWord tp len 1 r).2).2).2 2 = true then 2 else 3) (tNum tp len (nI 0) (nI 99) (-1) (tNum tp len (nI 0) (nI 999) (-1) (tWord tp len 1 r).2).2).2).1 = true then ((tSign tp len (tWord tp len (if atI tp (tNum tp len (nI 0) (nI 99) (-1) (tNum tp len (nI 0) (nI 999) (-1) (tWord tp len 1 r).2).2).2 2 = true then 2 else 3) (tNum tp len (nI 0) (nI 99) (-1) (tNum tp len (nI 0) (nI 999) (-1) (tWord tp len 1 r).2).2).2).2).1, (tSign tp len (tWord tp len (if atI tp (tNum tp len (nI 0) (nI 99) (-1) (tNum tp len (nI 0) (nI 999) (-1) (tWord tp len 1 r).2).2).2 2 = true then 2 else 3) (tNum tp len (nI 0) (nI 99) (-1) (tNum tp len (nI 0) (nI 999) (-1) (tWord tp len 1 r).2).2).2).2).2, (upd (sC s) (sN s) (tNum tp len (nI 0) (nI 999) (-1) (tWord tp len 1 r).2).2.2.2.2.2.1, upd (sI s) (sN s) (tNum tp len (nI 0) (nI 99) (-1) (tNum tp len (nI 0) (nI 999) (-1) (tWord tp len 1 r).2).2).2.2.2.2.2.1, upd (sP s) (sN s) (-1), sD s, sN s + 1, sU s, sR s, sQ s, (if b2I (atI tp (tNum tp len (nI 0) (nI 99) (-1) (tNum tp len (nI 0) (nI 999) (-1) (tWord tp len 1 r).2).2).2 2) = 0 then sH s else orI (sH s) (sN s)), sF s)) else (false, (tWord tp len (if atI tp (tNum tp len (nI 0) (nI 99) (-1) (tNum tp len (nI 0) (nI 999) (-1) (tWord tp len 1 r).2).2).2 2 = true then 2 else 3) (tNum tp len (nI 0) (nI 99) (-1) (tNum tp len (nI 0) (nI 999) (-1) (tWord tp len 1 r).2).2).2).2, s)
      else (false, (tNum tp len (nI 0) (nI 99) (-1) (tNum tp len (nI 0) (nI 999) (-1) (tWord tp len 1 r).2).2).2, s)
    else (false, (tNum tp len (nI 0) (nI 999) (-1) (tWord tp len 1 r).2).2, s)
  else (false, (tWord tp len 1 r).2, s)
noncomputable def rDbt (tp : Nat → Int32) (len : Nat) (r : RS) (s : TS) : Bool × RS × TS :=
  if (tWord tp len 4 r).1 = true then
    if (tNum tp len (nI 0) (nI (sN s - 1)) (-1) (tWord tp len 4 r).2).1 = true then
      if (tNum tp len (nI 0) (nI (sN s - 1)) (tNum tp len (nI 0) (nI (sN s - 1)) (-1) (tWord tp len 4 r).2).2.2.2.2.2.1 (tNum tp len (nI 0) (nI (sN s - 1)) (-1) (tWord tp len 4 r).2).2).1 = true then
        if (tNum tp len (nI 1) (nI 999) (-1) (tNum tp len (nI 0) (nI (sN s - 1)) (tNum tp len (nI 0) (nI (sN s - 1)) (-1) (tWord tp len 4 r).2).2.2.2.2.2.1 (tNum tp len (nI 0) (nI (sN s - 1)) (-1) (tWord tp len 4 r).2).2).2).1 = true then ((tSign tp len (tNum tp len (nI 1) (nI 999) (-1) (tNum tp len (nI 0) (nI (sN s - 1)) (tNum tp len (nI 0) (nI (sN s - 1)) (-1) (tWord tp len 4 r).2).2.2.2.2.2.1 (tNum tp len (nI 0) (nI (sN s - 1)) (-1) (tWord tp len 4 r).2).2).2).2).1, (tSign tp len (tNum tp len (nI 1) (nI 999) (-1) (tNum tp len (nI 0) (nI (sN s - 1)) (tNum tp len (nI 0) (nI (sN s - 1)) (-1) (tWord tp len 4 r).2).2.2.2.2.2.1 (tNum tp len (nI 0) (nI (sN s - 1)) (-1) (tWord tp len 4 r).2).2).2).2).2, (sC s, sI s, sP s, upd (sD s) (clp (tNum tp len (nI 0) (nI (sN s - 1)) (-1) (tWord tp len 4 r).2).2.2.2.2.2.1 * 7 + clp (tNum tp len (nI 0) (nI (sN s - 1)) (tNum tp len (nI 0) (nI (sN s - 1)) (-1) (tWord tp len 4 r).2).2.2.2.2.2.1 (tNum tp len (nI 0) (nI (sN s - 1)) (-1) (tWord tp len 4 r).2).2).2.2.2.2.2.1) (sD s (clp (tNum tp len (nI 0) (nI (sN s - 1)) (-1) (tWord tp len 4 r).2).2.2.2.2.2.1 * 7 + clp (tNum tp len (nI 0) (nI (sN s - 1)) (tNum tp len (nI 0) (nI (sN s - 1)) (-1) (tWord tp len 4 r).2).2.2.2.2.2.1 (tNum tp len (nI 0) (nI (sN s - 1)) (-1) (tWord tp len 4 r).2).2).2.2.2.2.2.1) + (tNum tp len (nI 1) (nI 999) (-1) (tNum tp len (nI 0) (nI (sN s - 1)) (tNum tp len (nI 0) (nI (sN s - 1)) (-1) (tWord tp len 4 r).2).2.2.2.2.2.1 (tNum tp len (nI 0) (nI (sN s - 1)) (-1) (tWord tp len 4 r).2).2).2).2.2.2.2.2.1), sN s, sU s, sR s, sQ s, sH s, sF s)) else (false, (tNum tp len (nI 1) (nI 999) (-1) (tNum tp len (nI 0) (nI (sN s - 1)) (tNum tp len (nI 0) (nI (sN s - 1)) (-1) (tWord tp len 4 r).2).2.2.2.2.2.1 (tNum tp len (nI 0) (nI (sN s - 1)) (-1) (tWord tp len 4 r).2).2).2).2, s)
      else (false, (tNum tp len (nI 0) (nI (sN s - 1)) (tNum tp len (nI 0) (nI (sN s - 1)) (-1) (tWord tp len 4 r).2).2.2.2.2.2.1 (tNum tp len (nI 0) (nI (sN s - 1)) (-1) (tWord tp len 4 r).2).2).2, s)
    else (false, (tNum tp len (nI 0) (nI (sN s - 1)) (-1) (tWord tp len 4 r).2).2, s)
  else (false, (tWord tp len 4 r).2, s)
theorem clp_le {x : Int32} {n : Nat} (h0 : ¬ x < 0) (h : ¬ nI n < x) (hn : n < 2 ^ 31) : clp x ≤ n := by
  obtain ⟨j, hj, rfl⟩ := nI_of h0
  rw [show clp (nI j) = j from nI_clamp hj]
  exact Nat.not_lt.mp (fun q => h (nI_lt q hj))
section K5
variable {G : GG} {z : Nat} {σ : AH} {tp : Nat → Int32} {len : Nat} {r : RS} {s : TS}
theorem c_readsPerson (h19 : σ 19 = some (.inl (1, 400, tp))) (hr : rOK len r) (hs : sOK r) (hl : len ≤ 400) (hN : sN s < 7) : Ct G yX2_readsPerson cX2_readsPerson 4 (some .boolean) 7 0 0 z (RHr σ len r s) [.ref 18] (some (.int (b2I (rPer tp len r s).1))) z (RHr σ len (rPer tp len r s).2.1 (rPer tp len r s).2.2) := by
  refine Ct.ofJ RX2 rfl [some (.ref 18), none, none, none] rfl (by decide) (by simp [Value.category]) ?_
  refine j_aload_n dX2_readsPerson_0 rfl rfl ?_
  refine j_ldcS (i := 1) rfl (by decide) rfl dX2_readsPerson_1 ?_
  refine j_callV (c_takesWord h19 (by decide) hr hs hl) dX2_readsPerson_3 rfl mv_X2_51 (by first | exact ups_a | exact RH_tape h19 | exact RH_dr) rfl ⟨(Nat.le_of_ble_eq_true rfl), (Nat.le_of_ble_eq_true rfl)⟩ ⟨(Nat.le_of_ble_eq_true rfl), (Nat.le_of_ble_eq_true rfl)⟩ (Nat.le_of_ble_eq_true rfl) ?_
  refine j_if_eq 21 dX2_readsPerson_6 (by decide) (fun b6 => ?_) (fun b6 => ?_)
  · refine j_iconst (nI 0) dX2_readsPerson_21 rfl ?_
    exact j_zret .boolean rfl rfl dX2_readsPerson_22 (by unfold rPer; first | (rw [if_pos hw, if_neg (b2I_n b18)]; rfl) | (rw [if_neg (b2I_n b6)]; rfl) | done) (by unfold rPer; first | rw [if_pos hw, if_neg (b2I_n b18)] | rw [if_neg (b2I_n b6)] | done) (Nat.le_of_ble_eq_true rfl) (Nat.le_of_ble_eq_true rfl)
  · have hw := b2I_1 b6
    refine j_aload_n dX2_readsPerson_9 rfl rfl ?_
    refine j_iconst (nI 0) dX2_readsPerson_10 rfl ?_
    refine j_sipush (nI 999) dX2_readsPerson_11 rfl ?_
    refine j_iconst (-1) dX2_readsPerson_14 rfl ?_
    refine j_callV (c_takesNumber (nI 0) (nI 999) (-1) h19 (tWord_ok hr) (tWord_s hs) hl) dX2_readsPerson_15 rfl mv_X2_55 (by first | exact ups_a | exact RH_tape h19 | exact RH_dr) rfl ⟨(Nat.le_of_ble_eq_true rfl), (Nat.le_of_ble_eq_true rfl)⟩ ⟨(Nat.le_of_ble_eq_true rfl), (Nat.le_of_ble_eq_true rfl)⟩ (Nat.le_of_ble_eq_true rfl) ?_
    refine j_if_ne 23 dX2_readsPerson_18 (by decide) (fun b18 => ?_) (fun b18 => ?_)
    · refine j_aload_n dX2_readsPerson_23 rfl rfl ?_
      refine j_getf dX2_readsPerson_24 2 7 rfl (Nat.le_of_ble_eq_true rfl) fl_X2_59 in_2 (by first | exact ups_a | exact RH_tape h19 | exact RH_dr) rfl ?_
      refine j_istore_n dX2_readsPerson_27 rfl (Nat.le_of_ble_eq_true rfl) rfl ?_
      refine j_aload_n dX2_readsPerson_28 rfl rfl ?_
      refine j_iconst (nI 0) dX2_readsPerson_29 rfl ?_
      refine j_bipush (nI 99) dX2_readsPerson_30 rfl ?_
      refine j_iconst (-1) dX2_readsPerson_32 rfl ?_
      refine j_callV (c_takesNumber (nI 0) (nI 99) (-1) h19 (tNum_ok (tWord_ok hr)) (tNum_s (tWord_s hs)) hl) dX2_readsPerson_33 rfl mv_X2_55 (by first | exact ups_a | exact RH_tape h19 | exact RH_dr) rfl ⟨(Nat.le_of_ble_eq_true rfl), (Nat.le_of_ble_eq_true rfl)⟩ ⟨(Nat.le_of_ble_eq_true rfl), (Nat.le_of_ble_eq_true rfl)⟩ (Nat.le_of_ble_eq_true rfl) ?_
      refine j_if_ne 41 dX2_readsPerson_36 (by decide) (fun b36 => ?_) (fun b36 => ?_)
      · refine j_aload_n dX2_readsPerson_41 rfl rfl ?_
        refine j_getf dX2_readsPerson_42 2 7 rfl (Nat.le_of_ble_eq_true rfl) fl_X2_59 in_2 (by first | exact ups_a | exact RH_tape h19 | exact RH_dr) rfl ?_
        refine j_istore_n dX2_readsPerson_45 rfl (Nat.le_of_ble_eq_true rfl) rfl ?_
        refine j_aload_n dX2_readsPerson_46 rfl rfl ?_
        refine j_ldcS (i := 2) rfl (by decide) rfl dX2_readsPerson_47 ?_
        refine j_callV (c_isAtWord h19 (by decide) (tNum_ok (tNum_ok (tWord_ok hr))) (tNum_s (tNum_s (tWord_s hs))) hl) dX2_readsPerson_49 rfl mv_X2_73 (by first | exact ups_a | exact RH_tape h19 | exact RH_dr) rfl ⟨(Nat.le_of_ble_eq_true rfl), (Nat.le_of_ble_eq_true rfl)⟩ ⟨(Nat.le_of_ble_eq_true rfl), (Nat.le_of_ble_eq_true rfl)⟩ (Nat.le_of_ble_eq_true rfl) ?_
        refine j_istore_n dX2_readsPerson_52 rfl (Nat.le_of_ble_eq_true rfl) rfl ?_
        refine j_aload_n dX2_readsPerson_53 rfl rfl ?_
        refine j_iload_n dX2_readsPerson_54 rfl rfl ?_
        refine j_if_eq 63 dX2_readsPerson_55 (by decide) (fun b55 => ?_) (fun b55 => ?_)
        · have hix : (if atI tp (tNum tp len (nI 0) (nI 99) (-1) (tNum tp len (nI 0) (nI 999) (-1) (tWord tp len 1 r).2).2).2 2 = true then 2 else 3) = 3 := if_neg (b2I_n b55)
          refine j_ldcS (i := 3) rfl (by decide) rfl dX2_readsPerson_63 ?_
          refine j_callV (c_takesWord h19 (by decide) (tNum_ok (tNum_ok (tWord_ok hr))) (tNum_s (tNum_s (tWord_s hs))) hl) dX2_readsPerson_65 rfl mv_X2_51 (by first | exact ups_a | exact RH_tape h19 | exact RH_dr) rfl ⟨(Nat.le_of_ble_eq_true rfl), (Nat.le_of_ble_eq_true rfl)⟩ ⟨(Nat.le_of_ble_eq_true rfl), (Nat.le_of_ble_eq_true rfl)⟩ (Nat.le_of_ble_eq_true rfl) ?_
          refine j_if_ne 73 dX2_readsPerson_68 (by decide) (fun b68 => ?_) (fun b68 => ?_)
          · refine j_aload_n dX2_readsPerson_73 rfl rfl ?_
            refine j_getf dX2_readsPerson_74 2 1 rfl (Nat.le_of_ble_eq_true rfl) fl_X2_18 in_2 (by first | exact ups_a | exact RH_tape h19 | exact RH_dr) rfl ?_
            refine j_iload_n dX2_readsPerson_77 rfl rfl ?_
            refine j_iload_n dX2_readsPerson_78 rfl rfl ?_
            refine j_iload_n dX2_readsPerson_79 rfl rfl ?_
            refine j_callV (c_settlesInS RH_Tat (tNum tp len (nI 0) (nI 999) (-1) (tWord tp len 1 r).2).2.2.2.2.2.1 (tNum tp len (nI 0) (nI 99) (-1) (tNum tp len (nI 0) (nI 999) (-1) (tWord tp len 1 r).2).2).2.2.2.2.2.1 (b2I (atI tp (tNum tp len (nI 0) (nI 99) (-1) (tNum tp len (nI 0) (nI 999) (-1) (tWord tp len 1 r).2).2).2 2)) hN) dX2_readsPerson_80 rfl mv_X2_83 RH_Tat.o rfl ⟨(Nat.le_of_ble_eq_true rfl), (Nat.le_of_ble_eq_true rfl)⟩ ⟨(Nat.le_of_ble_eq_true rfl), (Nat.le_of_ble_eq_true rfl)⟩ (Nat.le_of_ble_eq_true rfl) ?_
            rw [RH_tw]
            refine j_aload_n dX2_readsPerson_83 rfl rfl ?_
            refine j_callV (c_takesSign h19 (tWord_ok (tNum_ok (tNum_ok (tWord_ok hr)))) (tWord_s (tNum_s (tNum_s (tWord_s hs)))) hl) dX2_readsPerson_84 rfl mv_X2_68 (by first | exact ups_a | exact RH_tape h19 | exact RH_dr) rfl ⟨(Nat.le_of_ble_eq_true rfl), (Nat.le_of_ble_eq_true rfl)⟩ ⟨(Nat.le_of_ble_eq_true rfl), (Nat.le_of_ble_eq_true rfl)⟩ (Nat.le_of_ble_eq_true rfl) ?_
            exact j_zret .boolean rfl (by generalize tSign tp len _ = x; cases x.1 <;> rfl) dX2_readsPerson_87 (by unfold rPer; rw [if_pos hw, if_pos (b2I_1 b18), if_pos (b2I_1 b36), hix, if_pos (b2I_1 b68)]) (by unfold rPer; rw [if_pos hw, if_pos (b2I_1 b18), if_pos (b2I_1 b36), hix, if_pos (b2I_1 b68)]) (Nat.le_of_ble_eq_true rfl) (Nat.le_of_ble_eq_true rfl)
            done
          · refine j_iconst (nI 0) dX2_readsPerson_71 rfl ?_
            exact j_zret .boolean rfl rfl dX2_readsPerson_72 (by unfold rPer; rw [if_pos hw, if_pos (b2I_1 b18), if_pos (b2I_1 b36), hix, if_neg (b2I_n b68)]; rfl) (by unfold rPer; rw [if_pos hw, if_pos (b2I_1 b18), if_pos (b2I_1 b36), hix, if_neg (b2I_n b68)]) (Nat.le_of_ble_eq_true rfl) (Nat.le_of_ble_eq_true rfl)
        · have hix : (if atI tp (tNum tp len (nI 0) (nI 99) (-1) (tNum tp len (nI 0) (nI 999) (-1) (tWord tp len 1 r).2).2).2 2 = true then 2 else 3) = 2 := if_pos (b2I_1 b55)
          refine j_ldcS (i := 2) rfl (by decide) rfl dX2_readsPerson_58 ?_
          refine j_goto 65 dX2_readsPerson_60 (by decide) ?_
          refine j_callV (c_takesWord h19 (by decide) (tNum_ok (tNum_ok (tWord_ok hr))) (tNum_s (tNum_s (tWord_s hs))) hl) dX2_readsPerson_65 rfl mv_X2_51 (by first | exact ups_a | exact RH_tape h19 | exact RH_dr) rfl ⟨(Nat.le_of_ble_eq_true rfl), (Nat.le_of_ble_eq_true rfl)⟩ ⟨(Nat.le_of_ble_eq_true rfl), (Nat.le_of_ble_eq_true rfl)⟩ (Nat.le_of_ble_eq_true rfl) ?_
          refine j_if_ne 73 dX2_readsPerson_68 (by decide) (fun b68 => ?_) (fun b68 => ?_)
          · refine j_aload_n dX2_readsPerson_73 rfl rfl ?_
            refine j_getf dX2_readsPerson_74 2 1 rfl (Nat.le_of_ble_eq_true rfl) fl_X2_18 in_2 (by first | exact ups_a | exact RH_tape h19 | exact RH_dr) rfl ?_
            refine j_iload_n dX2_readsPerson_77 rfl rfl ?_
            refine j_iload_n dX2_readsPerson_78 rfl rfl ?_
            refine j_iload_n dX2_readsPerson_79 rfl rfl ?_
            refine j_callV (c_settlesInS RH_Tat (tNum tp len (nI 0) (nI 999) (-1) (tWord tp len 1 r).2).2.2.2.2.2.1 (tNum tp len (nI 0) (nI 99) (-1) (tNum tp len (nI 0) (nI 999) (-1) (tWord tp len 1 r).2).2).2.2.2.2.2.1 (b2I (atI tp (tNum tp len (nI 0) (nI 99) (-1) (tNum tp len (nI 0) (nI 999) (-1) (tWord tp len 1 r).2).2).2 2)) hN) dX2_readsPerson_80 rfl mv_X2_83 RH_Tat.o rfl ⟨(Nat.le_of_ble_eq_true rfl), (Nat.le_of_ble_eq_true rfl)⟩ ⟨(Nat.le_of_ble_eq_true rfl), (Nat.le_of_ble_eq_true rfl)⟩ (Nat.le_of_ble_eq_true rfl) ?_
            rw [RH_tw]
            refine j_aload_n dX2_readsPerson_83 rfl rfl ?_
            refine j_callV (c_takesSign h19 (tWord_ok (tNum_ok (tNum_ok (tWord_ok hr)))) (tWord_s (tNum_s (tNum_s (tWord_s hs)))) hl) dX2_readsPerson_84 rfl mv_X2_68 (by first | exact ups_a | exact RH_tape h19 | exact RH_dr) rfl ⟨(Nat.le_of_ble_eq_true rfl), (Nat.le_of_ble_eq_true rfl)⟩ ⟨(Nat.le_of_ble_eq_true rfl), (Nat.le_of_ble_eq_true rfl)⟩ (Nat.le_of_ble_eq_true rfl) ?_
            exact j_zret .boolean rfl (by generalize tSign tp len _ = x; cases x.1 <;> rfl) dX2_readsPerson_87 (by unfold rPer; rw [if_pos hw, if_pos (b2I_1 b18), if_pos (b2I_1 b36), hix, if_pos (b2I_1 b68)]) (by unfold rPer; rw [if_pos hw, if_pos (b2I_1 b18), if_pos (b2I_1 b36), hix, if_pos (b2I_1 b68)]) (Nat.le_of_ble_eq_true rfl) (Nat.le_of_ble_eq_true rfl)
            done
          · refine j_iconst (nI 0) dX2_readsPerson_71 rfl ?_
            exact j_zret .boolean rfl rfl dX2_readsPerson_72 (by unfold rPer; rw [if_pos hw, if_pos (b2I_1 b18), if_pos (b2I_1 b36), hix, if_neg (b2I_n b68)]; rfl) (by unfold rPer; rw [if_pos hw, if_pos (b2I_1 b18), if_pos (b2I_1 b36), hix, if_neg (b2I_n b68)]) (Nat.le_of_ble_eq_true rfl) (Nat.le_of_ble_eq_true rfl)
      · refine j_iconst (nI 0) dX2_readsPerson_39 rfl ?_
        exact j_zret .boolean rfl rfl dX2_readsPerson_40 (by unfold rPer; rw [if_pos hw, if_pos (b2I_1 b18), if_neg (b2I_n b36)]; rfl) (by unfold rPer; rw [if_pos hw, if_pos (b2I_1 b18), if_neg (b2I_n b36)]) (Nat.le_of_ble_eq_true rfl) (Nat.le_of_ble_eq_true rfl)
    · refine j_iconst (nI 0) dX2_readsPerson_21 rfl ?_
      exact j_zret .boolean rfl rfl dX2_readsPerson_22 (by unfold rPer; first | (rw [if_pos hw, if_neg (b2I_n b18)]; rfl) | (rw [if_neg (b2I_n b6)]; rfl) | done) (by unfold rPer; first | rw [if_pos hw, if_neg (b2I_n b18)] | rw [if_neg (b2I_n b6)] | done) (Nat.le_of_ble_eq_true rfl) (Nat.le_of_ble_eq_true rfl)
theorem c_readsDebt (h19 : σ 19 = some (.inl (1, 400, tp))) (hr : rOK len r) (hs : sOK r) (hl : len ≤ 400) (hN : sN s ≤ 7) (h1N : 1 ≤ sN s) : Ct G yX2_readsDebt cX2_readsDebt 3 (some .boolean) 7 0 0 z (RHr σ len r s) [.ref 18] (some (.int (b2I (rDbt tp len r s).1))) z (RHr σ len (rDbt tp len r s).2.1 (rDbt tp len r s).2.2) := by
  refine Ct.ofJ RX2 rfl [some (.ref 18), none, none] rfl (by decide) (by simp [Value.category]) ?_
  refine j_aload_n dX2_readsDebt_0 rfl rfl ?_
  refine j_ldcS (i := 4) rfl (by decide) rfl dX2_readsDebt_1 ?_
  refine j_callV (c_takesWord h19 (by decide) hr hs hl) dX2_readsDebt_3 rfl mv_X2_51 (by first | exact ups_a | exact RH_tape h19 | exact RH_dr) rfl ⟨(Nat.le_of_ble_eq_true rfl), (Nat.le_of_ble_eq_true rfl)⟩ ⟨(Nat.le_of_ble_eq_true rfl), (Nat.le_of_ble_eq_true rfl)⟩ (Nat.le_of_ble_eq_true rfl) ?_
  refine j_if_eq 27 dX2_readsDebt_6 (by decide) (fun b6 => ?_) (fun b6 => ?_)
  · refine j_iconst (nI 0) dX2_readsDebt_27 rfl ?_
    exact j_zret .boolean rfl rfl dX2_readsDebt_28 (by unfold rDbt; first | (rw [if_pos hw, if_neg (b2I_n b24)]; rfl) | (rw [if_neg (b2I_n b6)]; rfl) | done) (by unfold rDbt; first | rw [if_pos hw, if_neg (b2I_n b24)] | rw [if_neg (b2I_n b6)] | done) (Nat.le_of_ble_eq_true rfl) (Nat.le_of_ble_eq_true rfl)
  · have hw := b2I_1 b6
    refine j_aload_n dX2_readsDebt_9 rfl rfl ?_
    refine j_iconst (nI 0) dX2_readsDebt_10 rfl ?_
    refine j_aload_n dX2_readsDebt_11 rfl rfl ?_
    refine j_getf dX2_readsDebt_12 2 1 rfl (Nat.le_of_ble_eq_true rfl) fl_X2_18 in_2 (by first | exact ups_a | exact RH_tape h19 | exact RH_dr) rfl ?_
    refine j_getf dX2_readsDebt_15 4 4 rfl (Nat.le_of_ble_eq_true rfl) fl_X2_92 in_4 (by first | exact ups_a | exact RH_tape h19 | exact RH_dr) rfl ?_
    refine j_iconst (nI 1) dX2_readsDebt_18 rfl ?_
    refine j_isubN dX2_readsDebt_19 h1N ?_
    refine j_iconst (-1) dX2_readsDebt_20 rfl ?_
    refine j_callV (c_takesNumber (nI 0) (nI (sN s - 1)) (-1) h19 (tWord_ok hr) (tWord_s hs) hl) dX2_readsDebt_21 rfl mv_X2_55 (by first | exact ups_a | exact RH_tape h19 | exact RH_dr) rfl ⟨(Nat.le_of_ble_eq_true rfl), (Nat.le_of_ble_eq_true rfl)⟩ ⟨(Nat.le_of_ble_eq_true rfl), (Nat.le_of_ble_eq_true rfl)⟩ (Nat.le_of_ble_eq_true rfl) ?_
    refine j_if_ne 29 dX2_readsDebt_24 (by decide) (fun b24 => ?_) (fun b24 => ?_)
    · have hva := tNum_v (b2I_1 b24)
      refine j_aload_n dX2_readsDebt_29 rfl rfl ?_
      refine j_getf dX2_readsDebt_30 2 7 rfl (Nat.le_of_ble_eq_true rfl) fl_X2_59 in_2 (by first | exact ups_a | exact RH_tape h19 | exact RH_dr) rfl ?_
      refine j_istore_n dX2_readsDebt_33 rfl (Nat.le_of_ble_eq_true rfl) rfl ?_
      refine j_aload_n dX2_readsDebt_34 rfl rfl ?_
      refine j_iconst (nI 0) dX2_readsDebt_35 rfl ?_
      refine j_aload_n dX2_readsDebt_36 rfl rfl ?_
      refine j_getf dX2_readsDebt_37 2 1 rfl (Nat.le_of_ble_eq_true rfl) fl_X2_18 in_2 (by first | exact ups_a | exact RH_tape h19 | exact RH_dr) rfl ?_
      refine j_getf dX2_readsDebt_40 4 4 rfl (Nat.le_of_ble_eq_true rfl) fl_X2_92 in_4 (by first | exact ups_a | exact RH_tape h19 | exact RH_dr) rfl ?_
      refine j_iconst (nI 1) dX2_readsDebt_43 rfl ?_
      refine j_isubN dX2_readsDebt_44 h1N ?_
      refine j_iload_n dX2_readsDebt_45 rfl rfl ?_
      refine j_callV (c_takesNumber (nI 0) (nI (sN s - 1)) (tNum tp len (nI 0) (nI (sN s - 1)) (-1) (tWord tp len 4 r).2).2.2.2.2.2.1 h19 (tNum_ok (tWord_ok hr)) (tNum_s (tWord_s hs)) hl) dX2_readsDebt_46 rfl mv_X2_55 (by first | exact ups_a | exact RH_tape h19 | exact RH_dr) rfl ⟨(Nat.le_of_ble_eq_true rfl), (Nat.le_of_ble_eq_true rfl)⟩ ⟨(Nat.le_of_ble_eq_true rfl), (Nat.le_of_ble_eq_true rfl)⟩ (Nat.le_of_ble_eq_true rfl) ?_
      refine j_if_ne 54 dX2_readsDebt_49 (by decide) (fun b49 => ?_) (fun b49 => ?_)
      · have hvb := tNum_v (b2I_1 b49)
        refine j_aload_n dX2_readsDebt_54 rfl rfl ?_
        refine j_getf dX2_readsDebt_55 2 7 rfl (Nat.le_of_ble_eq_true rfl) fl_X2_59 in_2 (by first | exact ups_a | exact RH_tape h19 | exact RH_dr) rfl ?_
        refine j_istore_n dX2_readsDebt_58 rfl (Nat.le_of_ble_eq_true rfl) rfl ?_
        refine j_aload_n dX2_readsDebt_59 rfl rfl ?_
        refine j_iconst (nI 1) dX2_readsDebt_60 rfl ?_
        refine j_sipush (nI 999) dX2_readsDebt_61 rfl ?_
        refine j_iconst (-1) dX2_readsDebt_64 rfl ?_
        refine j_callV (c_takesNumber (nI 1) (nI 999) (-1) h19 (tNum_ok (tNum_ok (tWord_ok hr))) (tNum_s (tNum_s (tWord_s hs))) hl) dX2_readsDebt_65 rfl mv_X2_55 (by first | exact ups_a | exact RH_tape h19 | exact RH_dr) rfl ⟨(Nat.le_of_ble_eq_true rfl), (Nat.le_of_ble_eq_true rfl)⟩ ⟨(Nat.le_of_ble_eq_true rfl), (Nat.le_of_ble_eq_true rfl)⟩ (Nat.le_of_ble_eq_true rfl) ?_
        refine j_if_ne 73 dX2_readsDebt_68 (by decide) (fun b68 => ?_) (fun b68 => ?_)
        · have ha7 : clp (tNum tp len (nI 0) (nI (sN s - 1)) (-1) (tWord tp len 4 r).2).2.2.2.2.2.1 ≤ sN s - 1 := clp_le hva.1 hva.2.1 (by omega)
          have hb7 : clp (tNum tp len (nI 0) (nI (sN s - 1)) (tNum tp len (nI 0) (nI (sN s - 1)) (-1) (tWord tp len 4 r).2).2.2.2.2.2.1 (tNum tp len (nI 0) (nI (sN s - 1)) (-1) (tWord tp len 4 r).2).2).2.2.2.2.2.1 ≤ sN s - 1 := clp_le hvb.1 hvb.2.1 (by omega)
          have hab : clp (tNum tp len (nI 0) (nI (sN s - 1)) (-1) (tWord tp len 4 r).2).2.2.2.2.2.1 * 7 + clp (tNum tp len (nI 0) (nI (sN s - 1)) (tNum tp len (nI 0) (nI (sN s - 1)) (-1) (tWord tp len 4 r).2).2.2.2.2.2.1 (tNum tp len (nI 0) (nI (sN s - 1)) (-1) (tWord tp len 4 r).2).2).2.2.2.2.2.1 < 49 := by omega
          refine j_aload_n dX2_readsDebt_73 rfl rfl ?_
          refine j_getf dX2_readsDebt_74 2 1 rfl (Nat.le_of_ble_eq_true rfl) fl_X2_18 in_2 (by first | exact ups_a | exact RH_tape h19 | exact RH_dr) rfl ?_
          refine j_iload_n dX2_readsDebt_77 rfl rfl ?_
          refine j_iload_n dX2_readsDebt_78 rfl rfl ?_
          refine j_aload_n dX2_readsDebt_79 rfl rfl ?_
          refine j_getf dX2_readsDebt_80 2 7 rfl (Nat.le_of_ble_eq_true rfl) fl_X2_59 in_2 (by first | exact ups_a | exact RH_tape h19 | exact RH_dr) rfl ?_
          refine j_callV (by have c0 := c_owesMoreS (G := G) (z := z) (RH_Tat (σ := σ) (s := s) (e := xRd len (tNum tp len (nI 1) (nI 999) (-1) (tNum tp len (nI 0) (nI (sN s - 1)) (tNum tp len (nI 0) (nI (sN s - 1)) (-1) (tWord tp len 4 r).2).2.2.2.2.2.1 (tNum tp len (nI 0) (nI (sN s - 1)) (-1) (tWord tp len 4 r).2).2).2).2.1 (tNum tp len (nI 1) (nI 999) (-1) (tNum tp len (nI 0) (nI (sN s - 1)) (tNum tp len (nI 0) (nI (sN s - 1)) (-1) (tWord tp len 4 r).2).2.2.2.2.2.1 (tNum tp len (nI 0) (nI (sN s - 1)) (-1) (tWord tp len 4 r).2).2).2).2.2.1 (tNum tp len (nI 1) (nI 999) (-1) (tNum tp len (nI 0) (nI (sN s - 1)) (tNum tp len (nI 0) (nI (sN s - 1)) (-1) (tWord tp len 4 r).2).2.2.2.2.2.1 (tNum tp len (nI 0) (nI (sN s - 1)) (-1) (tWord tp len 4 r).2).2).2).2.2.2.1 (tNum tp len (nI 1) (nI 999) (-1) (tNum tp len (nI 0) (nI (sN s - 1)) (tNum tp len (nI 0) (nI (sN s - 1)) (-1) (tWord tp len 4 r).2).2.2.2.2.2.1 (tNum tp len (nI 0) (nI (sN s - 1)) (-1) (tWord tp len 4 r).2).2).2).2.2.2.2.1 (tNum tp len (nI 1) (nI 999) (-1) (tNum tp len (nI 0) (nI (sN s - 1)) (tNum tp len (nI 0) (nI (sN s - 1)) (-1) (tWord tp len 4 r).2).2.2.2.2.2.1 (tNum tp len (nI 0) (nI (sN s - 1)) (-1) (tWord tp len 4 r).2).2).2).2.2.2.2.2.1 (tNum tp len (nI 1) (nI 999) (-1) (tNum tp len (nI 0) (nI (sN s - 1)) (tNum tp len (nI 0) (nI (sN s - 1)) (-1) (tWord tp len 4 r).2).2.2.2.2.2.1 (tNum tp len (nI 0) (nI (sN s - 1)) (-1) (tWord tp len 4 r).2).2).2).2.2.2.2.2.2)) (tNum tp len (nI 1) (nI 999) (-1) (tNum tp len (nI 0) (nI (sN s - 1)) (tNum tp len (nI 0) (nI (sN s - 1)) (-1) (tWord tp len 4 r).2).2.2.2.2.2.1 (tNum tp len (nI 0) (nI (sN s - 1)) (-1) (tWord tp len 4 r).2).2).2).2.2.2.2.2.1 hab; rw [← clp_nI hva.1, ← clp_nI hvb.1] at c0; exact c0) dX2_readsDebt_83 rfl mv_X2_95 RH_Tat.o rfl ⟨(Nat.le_of_ble_eq_true rfl), (Nat.le_of_ble_eq_true rfl)⟩ ⟨(Nat.le_of_ble_eq_true rfl), (Nat.le_of_ble_eq_true rfl)⟩ (Nat.le_of_ble_eq_true rfl) ?_
          rw [RH_tw]
          refine j_aload_n dX2_readsDebt_86 rfl rfl ?_
          refine j_callV (c_takesSign h19 (tNum_ok (tNum_ok (tNum_ok (tWord_ok hr)))) (tNum_s (tNum_s (tNum_s (tWord_s hs)))) hl) dX2_readsDebt_87 rfl mv_X2_68 (by first | exact ups_a | exact RH_tape h19 | exact RH_dr) rfl ⟨(Nat.le_of_ble_eq_true rfl), (Nat.le_of_ble_eq_true rfl)⟩ ⟨(Nat.le_of_ble_eq_true rfl), (Nat.le_of_ble_eq_true rfl)⟩ (Nat.le_of_ble_eq_true rfl) ?_
          exact j_zret .boolean rfl (by generalize tSign tp len _ = x; cases x.1 <;> rfl) dX2_readsDebt_90 (by unfold rDbt; rw [if_pos hw, if_pos (b2I_1 b24), if_pos (b2I_1 b49), if_pos (b2I_1 b68)]) (by unfold rDbt; rw [if_pos hw, if_pos (b2I_1 b24), if_pos (b2I_1 b49), if_pos (b2I_1 b68)]) (Nat.le_of_ble_eq_true rfl) (Nat.le_of_ble_eq_true rfl)
          done
        · refine j_iconst (nI 0) dX2_readsDebt_71 rfl ?_
          exact j_zret .boolean rfl rfl dX2_readsDebt_72 (by unfold rDbt; rw [if_pos hw, if_pos (b2I_1 b24), if_pos (b2I_1 b49), if_neg (b2I_n b68)]; rfl) (by unfold rDbt; rw [if_pos hw, if_pos (b2I_1 b24), if_pos (b2I_1 b49), if_neg (b2I_n b68)]) (Nat.le_of_ble_eq_true rfl) (Nat.le_of_ble_eq_true rfl)
      · refine j_iconst (nI 0) dX2_readsDebt_52 rfl ?_
        exact j_zret .boolean rfl rfl dX2_readsDebt_53 (by unfold rDbt; rw [if_pos hw, if_pos (b2I_1 b24), if_neg (b2I_n b49)]; rfl) (by unfold rDbt; rw [if_pos hw, if_pos (b2I_1 b24), if_neg (b2I_n b49)]) (Nat.le_of_ble_eq_true rfl) (Nat.le_of_ble_eq_true rfl)
    · refine j_iconst (nI 0) dX2_readsDebt_27 rfl ?_
      exact j_zret .boolean rfl rfl dX2_readsDebt_28 (by unfold rDbt; first | (rw [if_pos hw, if_neg (b2I_n b24)]; rfl) | (rw [if_neg (b2I_n b6)]; rfl) | done) (by unfold rDbt; first | rw [if_pos hw, if_neg (b2I_n b24)] | rw [if_neg (b2I_n b6)] | done) (Nat.le_of_ble_eq_true rfl) (Nat.le_of_ble_eq_true rfl)
end K5

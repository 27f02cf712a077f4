/-! THE READER: the next token, words, signs, numbers -/
abbrev RS : Type := Nat × Nat × Nat × Int32 × Int32 × Int32
abbrev RHr (σ : AH) (len : Nat) (r : RS) (s : TS) : AH := RH σ len r.1 r.2.1 r.2.2.1 r.2.2.2.1 r.2.2.2.2.1 r.2.2.2.2.2 s
def nextT (tp : Nat → Int32) (len : Nat) (r : RS) : RS := ((tk tp len r.2.2.1 r.2.2.2.1).1, (tk tp len r.2.2.1 r.2.2.2.1).2.1, (tk tp len r.2.2.1 r.2.2.2.1).2.2.1, (tk tp len r.2.2.1 r.2.2.2.1).2.2.2, r.2.2.2.2.1, r.2.2.2.2.2)
def hsF (n : Nat) (r : RS) : RS := (r.1, r.2.1, r.2.2.1, r.2.2.2.1, r.2.2.2.2.1, nI n)
def rOK (len : Nat) (r : RS) : Prop := r.2.1 ≤ r.2.2.1 ∧ r.2.2.1 ≤ len
def atW (tp : Nat → Int32) (r : RS) (i : Nat) : Prop := r.1 = 1 ∧ r.2.2.1 = r.2.1 + lnS i ∧ ∀ k, k < lnS i → tp (r.2.1 + k) = btS i k
noncomputable def atI (tp : Nat → Int32) (r : RS) (i : Nat) : Bool := @decide (atW tp r i) (Classical.propDecidable _)
theorem atI_y {tp : Nat → Int32} {r : RS} {i : Nat} (h : atW tp r i) : atI tp r i = true := by unfold atI; simp [h]
theorem atI_n {tp : Nat → Int32} {r : RS} {i : Nat} (h : ¬ atW tp r i) : atI tp r i = false := by unfold atI; simp [h]
theorem tk_ok {tp : Nat → Int32} {len e : Nat} {va : Int32} (h : e ≤ len) : (tk tp len e va).2.1 ≤ (tk tp len e va).2.2.1 ∧ (tk tp len e va).2.2.1 ≤ len := by
  have h1 : tkS tp len e ≤ len := by have := fstN_le (fun j => !isBl (tp j)) (len - e) e; unfold tkS; omega
  unfold tk
  split
  · exact ⟨Nat.le_refl _, h1⟩
  · split
    · have a := fstN_ge (fun j => !isLt (tp j)) (len - tkS tp len e) (tkS tp len e)
      have b := fstN_le (fun j => !isLt (tp j)) (len - tkS tp len e) (tkS tp len e)
      exact ⟨a, by show enL tp len (tkS tp len e) ≤ len; unfold enL; omega⟩
    · split
      · have a := fstN_ge (fun j => !isFg (tp j)) (len - tkS tp len e) (tkS tp len e)
        have b := fstN_le (fun j => !isFg (tp j)) (len - tkS tp len e) (tkS tp len e)
        exact ⟨a, by show enF tp len (tkS tp len e) ≤ len; unfold enF; omega⟩
      · exact ⟨Nat.le_succ _, by show tkS tp len e + 1 ≤ len; omega⟩
theorem nextT_ok {tp : Nat → Int32} {len : Nat} {r : RS} (h : rOK len r) : rOK len (nextT tp len r) := tk_ok h.2
noncomputable def tWord (tp : Nat → Int32) (len i : Nat) (r : RS) : Bool × RS := if atI tp r i = true then (true, nextT tp len r) else (false, hsF 1 r)
def tSign (tp : Nat → Int32) (len : Nat) (r : RS) : Bool × RS := if r.1 = 3 then (true, nextT tp len r) else (false, hsF 1 r)
def tNum (tp : Nat → Int32) (len : Nat) (lo hi nt : Int32) (r : RS) : Bool × RS := if r.1 = 2 then (if r.2.2.2.1 < lo then (false, hsF 2 r) else if hi < r.2.2.2.1 then (false, hsF 2 r) else if r.2.2.2.1 = nt then (false, hsF 2 r) else (true, nextT tp len (r.1, r.2.1, r.2.2.1, r.2.2.2.1, r.2.2.2.1, r.2.2.2.2.2))) else (false, hsF 1 r)
theorem tWord_ok {tp : Nat → Int32} {len i : Nat} {r : RS} (h : rOK len r) : rOK len (tWord tp len i r).2 := by
  unfold tWord; split
  · exact nextT_ok h
  · exact h
theorem tSign_ok {tp : Nat → Int32} {len : Nat} {r : RS} (h : rOK len r) : rOK len (tSign tp len r).2 := by
  unfold tSign; split
  · exact nextT_ok h
  · exact h
theorem tNum_ok {tp : Nat → Int32} {len : Nat} {lo hi nt : Int32} {r : RS} (h : rOK len r) : rOK len (tNum tp len lo hi nt r).2 := by
  unfold tNum; split
  · split
    · exact h
    · split
      · exact h
      · split
        · exact h
        · exact nextT_ok (r := (r.1, r.2.1, r.2.2.1, r.2.2.2.1, r.2.2.2.1, r.2.2.2.2.2)) h
  · exact h
theorem dX2_hasFault_0 : decode cX2_hasFault 0 = .ok (.aload_n 0, 1) := by decide +kernel
theorem dX2_hasFault_1 : decode cX2_hasFault 1 = .ok (.iload_n 1, 1) := by decide +kernel
theorem dX2_hasFault_2 : decode cX2_hasFault 2 = .ok (.putfield 99, 3) := by decide +kernel
theorem dX2_hasFault_5 : decode cX2_hasFault 5 = .ok (.iconst 0, 1) := by decide +kernel
theorem dX2_hasFault_6 : decode cX2_hasFault 6 = .ok (.ireturn, 1) := by decide +kernel
theorem dX2_isAtWord_0 : decode cX2_isAtWord 0 = .ok (.aload_n 0, 1) := by decide +kernel
theorem dX2_isAtWord_1 : decode cX2_isAtWord 1 = .ok (.getfield 42, 3) := by decide +kernel
theorem dX2_isAtWord_4 : decode cX2_isAtWord 4 = .ok (.iconst 1, 1) := by decide +kernel
theorem dX2_isAtWord_5 : decode cX2_isAtWord 5 = .ok (.if_icmp .ne 19, 3) := by decide +kernel
theorem dX2_isAtWord_8 : decode cX2_isAtWord 8 = .ok (.aload_n 0, 1) := by decide +kernel
theorem dX2_isAtWord_9 : decode cX2_isAtWord 9 = .ok (.getfield 22, 3) := by decide +kernel
theorem dX2_isAtWord_12 : decode cX2_isAtWord 12 = .ok (.aload_n 0, 1) := by decide +kernel
theorem dX2_isAtWord_13 : decode cX2_isAtWord 13 = .ok (.getfield 102, 3) := by decide +kernel
theorem dX2_isAtWord_16 : decode cX2_isAtWord 16 = .ok (.isub, 1) := by decide +kernel
theorem dX2_isAtWord_17 : decode cX2_isAtWord 17 = .ok (.aload_n 1, 1) := by decide +kernel
theorem dX2_isAtWord_18 : decode cX2_isAtWord 18 = .ok (.invokevirtual 105, 3) := by decide +kernel
theorem dX2_isAtWord_21 : decode cX2_isAtWord 21 = .ok (.if_icmp .eq 5, 3) := by decide +kernel
theorem dX2_isAtWord_24 : decode cX2_isAtWord 24 = .ok (.iconst 0, 1) := by decide +kernel
theorem dX2_isAtWord_25 : decode cX2_isAtWord 25 = .ok (.ireturn, 1) := by decide +kernel
theorem dX2_isAtWord_26 : decode cX2_isAtWord 26 = .ok (.iconst 0, 1) := by decide +kernel
theorem dX2_isAtWord_27 : decode cX2_isAtWord 27 = .ok (.istore_n 2, 1) := by decide +kernel
theorem dX2_isAtWord_28 : decode cX2_isAtWord 28 = .ok (.iload_n 2, 1) := by decide +kernel
theorem dX2_isAtWord_29 : decode cX2_isAtWord 29 = .ok (.aload_n 1, 1) := by decide +kernel
theorem dX2_isAtWord_30 : decode cX2_isAtWord 30 = .ok (.invokevirtual 105, 3) := by decide +kernel
theorem dX2_isAtWord_33 : decode cX2_isAtWord 33 = .ok (.if_icmp .ge 30, 3) := by decide +kernel
theorem dX2_isAtWord_36 : decode cX2_isAtWord 36 = .ok (.aload_n 0, 1) := by decide +kernel
theorem dX2_isAtWord_37 : decode cX2_isAtWord 37 = .ok (.getfield 9, 3) := by decide +kernel
theorem dX2_isAtWord_40 : decode cX2_isAtWord 40 = .ok (.aload_n 0, 1) := by decide +kernel
theorem dX2_isAtWord_41 : decode cX2_isAtWord 41 = .ok (.getfield 102, 3) := by decide +kernel
theorem dX2_isAtWord_44 : decode cX2_isAtWord 44 = .ok (.iload_n 2, 1) := by decide +kernel
theorem dX2_isAtWord_45 : decode cX2_isAtWord 45 = .ok (.iadd, 1) := by decide +kernel
theorem dX2_isAtWord_46 : decode cX2_isAtWord 46 = .ok (.baload, 1) := by decide +kernel
theorem dX2_isAtWord_47 : decode cX2_isAtWord 47 = .ok (.aload_n 1, 1) := by decide +kernel
theorem dX2_isAtWord_48 : decode cX2_isAtWord 48 = .ok (.iload_n 2, 1) := by decide +kernel
theorem dX2_isAtWord_49 : decode cX2_isAtWord 49 = .ok (.invokevirtual 111, 3) := by decide +kernel
theorem dX2_isAtWord_52 : decode cX2_isAtWord 52 = .ok (.if_icmp .eq 5, 3) := by decide +kernel
theorem dX2_isAtWord_55 : decode cX2_isAtWord 55 = .ok (.iconst 0, 1) := by decide +kernel
theorem dX2_isAtWord_56 : decode cX2_isAtWord 56 = .ok (.ireturn, 1) := by decide +kernel
theorem dX2_isAtWord_57 : decode cX2_isAtWord 57 = .ok (.iinc 2 1, 3) := by decide +kernel
theorem dX2_isAtWord_60 : decode cX2_isAtWord 60 = .ok (.goto (-32), 3) := by decide +kernel
theorem dX2_isAtWord_63 : decode cX2_isAtWord 63 = .ok (.iconst 1, 1) := by decide +kernel
theorem dX2_isAtWord_64 : decode cX2_isAtWord 64 = .ok (.ireturn, 1) := by decide +kernel
theorem dX2_takesWord_0 : decode cX2_takesWord 0 = .ok (.aload_n 0, 1) := by decide +kernel
theorem dX2_takesWord_1 : decode cX2_takesWord 1 = .ok (.aload_n 1, 1) := by decide +kernel
theorem dX2_takesWord_2 : decode cX2_takesWord 2 = .ok (.invokevirtual 73, 3) := by decide +kernel
theorem dX2_takesWord_5 : decode cX2_takesWord 5 = .ok (.ifCond .ne 9, 3) := by decide +kernel
theorem dX2_takesWord_8 : decode cX2_takesWord 8 = .ok (.aload_n 0, 1) := by decide +kernel
theorem dX2_takesWord_9 : decode cX2_takesWord 9 = .ok (.iconst 1, 1) := by decide +kernel
theorem dX2_takesWord_10 : decode cX2_takesWord 10 = .ok (.invokevirtual 45, 3) := by decide +kernel
theorem dX2_takesWord_13 : decode cX2_takesWord 13 = .ok (.ireturn, 1) := by decide +kernel
theorem dX2_takesWord_14 : decode cX2_takesWord 14 = .ok (.aload_n 0, 1) := by decide +kernel
theorem dX2_takesWord_15 : decode cX2_takesWord 15 = .ok (.invokevirtual 29, 3) := by decide +kernel
theorem dX2_takesWord_18 : decode cX2_takesWord 18 = .ok (.iconst 1, 1) := by decide +kernel
theorem dX2_takesWord_19 : decode cX2_takesWord 19 = .ok (.ireturn, 1) := by decide +kernel
theorem dX2_takesSign_0 : decode cX2_takesSign 0 = .ok (.aload_n 0, 1) := by decide +kernel
theorem dX2_takesSign_1 : decode cX2_takesSign 1 = .ok (.getfield 42, 3) := by decide +kernel
theorem dX2_takesSign_4 : decode cX2_takesSign 4 = .ok (.iconst 3, 1) := by decide +kernel
theorem dX2_takesSign_5 : decode cX2_takesSign 5 = .ok (.if_icmp .eq 9, 3) := by decide +kernel
theorem dX2_takesSign_8 : decode cX2_takesSign 8 = .ok (.aload_n 0, 1) := by decide +kernel
theorem dX2_takesSign_9 : decode cX2_takesSign 9 = .ok (.iconst 1, 1) := by decide +kernel
theorem dX2_takesSign_10 : decode cX2_takesSign 10 = .ok (.invokevirtual 45, 3) := by decide +kernel
theorem dX2_takesSign_13 : decode cX2_takesSign 13 = .ok (.ireturn, 1) := by decide +kernel
theorem dX2_takesSign_14 : decode cX2_takesSign 14 = .ok (.aload_n 0, 1) := by decide +kernel
theorem dX2_takesSign_15 : decode cX2_takesSign 15 = .ok (.invokevirtual 29, 3) := by decide +kernel
theorem dX2_takesSign_18 : decode cX2_takesSign 18 = .ok (.iconst 1, 1) := by decide +kernel
theorem dX2_takesSign_19 : decode cX2_takesSign 19 = .ok (.ireturn, 1) := by decide +kernel
theorem dX2_takesNumber_0 : decode cX2_takesNumber 0 = .ok (.aload_n 0, 1) := by decide +kernel
theorem dX2_takesNumber_1 : decode cX2_takesNumber 1 = .ok (.getfield 42, 3) := by decide +kernel
theorem dX2_takesNumber_4 : decode cX2_takesNumber 4 = .ok (.iconst 2, 1) := by decide +kernel
theorem dX2_takesNumber_5 : decode cX2_takesNumber 5 = .ok (.if_icmp .eq 9, 3) := by decide +kernel
theorem dX2_takesNumber_8 : decode cX2_takesNumber 8 = .ok (.aload_n 0, 1) := by decide +kernel
theorem dX2_takesNumber_9 : decode cX2_takesNumber 9 = .ok (.iconst 1, 1) := by decide +kernel
theorem dX2_takesNumber_10 : decode cX2_takesNumber 10 = .ok (.invokevirtual 45, 3) := by decide +kernel
theorem dX2_takesNumber_13 : decode cX2_takesNumber 13 = .ok (.ireturn, 1) := by decide +kernel
theorem dX2_takesNumber_14 : decode cX2_takesNumber 14 = .ok (.aload_n 0, 1) := by decide +kernel
theorem dX2_takesNumber_15 : decode cX2_takesNumber 15 = .ok (.getfield 115, 3) := by decide +kernel
theorem dX2_takesNumber_18 : decode cX2_takesNumber 18 = .ok (.iload_n 1, 1) := by decide +kernel
theorem dX2_takesNumber_19 : decode cX2_takesNumber 19 = .ok (.if_icmp .lt 19, 3) := by decide +kernel
theorem dX2_takesNumber_22 : decode cX2_takesNumber 22 = .ok (.aload_n 0, 1) := by decide +kernel
theorem dX2_takesNumber_23 : decode cX2_takesNumber 23 = .ok (.getfield 115, 3) := by decide +kernel
theorem dX2_takesNumber_26 : decode cX2_takesNumber 26 = .ok (.iload_n 2, 1) := by decide +kernel
theorem dX2_takesNumber_27 : decode cX2_takesNumber 27 = .ok (.if_icmp .gt 11, 3) := by decide +kernel
theorem dX2_takesNumber_30 : decode cX2_takesNumber 30 = .ok (.aload_n 0, 1) := by decide +kernel
theorem dX2_takesNumber_31 : decode cX2_takesNumber 31 = .ok (.getfield 115, 3) := by decide +kernel
theorem dX2_takesNumber_34 : decode cX2_takesNumber 34 = .ok (.iload_n 3, 1) := by decide +kernel
theorem dX2_takesNumber_35 : decode cX2_takesNumber 35 = .ok (.if_icmp .ne 9, 3) := by decide +kernel
theorem dX2_takesNumber_38 : decode cX2_takesNumber 38 = .ok (.aload_n 0, 1) := by decide +kernel
theorem dX2_takesNumber_39 : decode cX2_takesNumber 39 = .ok (.iconst 2, 1) := by decide +kernel
theorem dX2_takesNumber_40 : decode cX2_takesNumber 40 = .ok (.invokevirtual 45, 3) := by decide +kernel
theorem dX2_takesNumber_43 : decode cX2_takesNumber 43 = .ok (.ireturn, 1) := by decide +kernel
theorem dX2_takesNumber_44 : decode cX2_takesNumber 44 = .ok (.aload_n 0, 1) := by decide +kernel
theorem dX2_takesNumber_45 : decode cX2_takesNumber 45 = .ok (.aload_n 0, 1) := by decide +kernel
theorem dX2_takesNumber_46 : decode cX2_takesNumber 46 = .ok (.getfield 115, 3) := by decide +kernel
theorem dX2_takesNumber_49 : decode cX2_takesNumber 49 = .ok (.putfield 59, 3) := by decide +kernel
theorem dX2_takesNumber_52 : decode cX2_takesNumber 52 = .ok (.aload_n 0, 1) := by decide +kernel
theorem dX2_takesNumber_53 : decode cX2_takesNumber 53 = .ok (.invokevirtual 29, 3) := by decide +kernel
theorem dX2_takesNumber_56 : decode cX2_takesNumber 56 = .ok (.iconst 1, 1) := by decide +kernel
theorem dX2_takesNumber_57 : decode cX2_takesNumber 57 = .ok (.ireturn, 1) := by decide +kernel
section K3
variable {G : GG} {z : Nat} {σ : AH} {tp : Nat → Int32} {len : Nat} {r : RS} {s : TS}
theorem c_toNextToken (h19 : σ 19 = some (.inl (1, 400, tp))) (hr : r.2.2.1 ≤ len) (hs : r.1 ≤ 4) (hl : len ≤ 400) : Ct G yX2_toNextToken cX2_toNextToken 1 none 3 0 0 z (RHr σ len r s) [.ref 18] none z (RHr σ len (nextT tp len r) s) := by
  refine Ct.ofJ RX2 rfl [some (.ref 18)] rfl (by decide) Nat.le.refl ?_
  have htk : nextT tp len r = ((tk tp len r.2.2.1 r.2.2.2.1).1, (tk tp len r.2.2.1 r.2.2.2.1).2.1, (tk tp len r.2.2.1 r.2.2.2.1).2.2.1, (tk tp len r.2.2.1 r.2.2.2.1).2.2.2, r.2.2.2.2.1, r.2.2.2.2.2) := rfl
  have hend : J G RX2 cX2_toNextToken 1 none (TQ G 3 0 0 none z (RHr σ len (nextT tp len r) s)) z (RH σ len r.1 (tkS tp len r.2.2.1) r.2.2.1 r.2.2.2.1 r.2.2.2.2.1 r.2.2.2.2.2 s) 0 0 47 [some (.ref 18)] [] := by
    rw [htk]
    have h1 : tkS tp len r.2.2.1 ≤ len := by have := fstN_le (fun j => !isBl (tp j)) (len - r.2.2.1) r.2.2.1; unfold tkS; omega
    have htu : tk tp len r.2.2.1 r.2.2.2.1 = if len ≤ tkS tp len r.2.2.1 then (0, tkS tp len r.2.2.1, tkS tp len r.2.2.1, r.2.2.2.1)
      else if isLt (tp (tkS tp len r.2.2.1)) = true then (1, tkS tp len r.2.2.1, enL tp len (tkS tp len r.2.2.1), r.2.2.2.1)
      else if isFg (tp (tkS tp len r.2.2.1)) = true then ((if enF tp len (tkS tp len r.2.2.1) - tkS tp len r.2.2.1 ≤ 3 then 2 else 4), tkS tp len r.2.2.1, enF tp len (tkS tp len r.2.2.1), vlF tp (tkS tp len r.2.2.1) (enF tp len (tkS tp len r.2.2.1) - tkS tp len r.2.2.1))
      else ((if tp (tkS tp len r.2.2.1) = nI 59 then 3 else 4), tkS tp len r.2.2.1, tkS tp len r.2.2.1 + 1, r.2.2.2.1) := rfl
    generalize tkS tp len r.2.2.1 = ss at h1 htu ⊢
    generalize tk tp len r.2.2.1 r.2.2.2.1 = tt at htu ⊢
    refine j_aload_n dX2_toNextToken_47 rfl rfl ?_
    refine j_aload_n dX2_toNextToken_48 rfl rfl ?_
    refine j_getf dX2_toNextToken_49 2 4 rfl (Nat.le_of_ble_eq_true rfl) fl_X2_102 in_2 (by first | exact ups_a | exact RH_tape h19 | exact RH_dr) rfl ?_
    refine j_putf dX2_toNextToken_52 2 5 rfl (Nat.le_of_ble_eq_true rfl) fl_X2_22 in_2 tyX2 tyX2_ok nmX2 rfl rfl (by first | exact ups_a | exact RH_tape h19 | exact RH_dr) (Nat.le_of_ble_eq_true rfl) _ (by exact ups_ups) ?_
    refine j_aload_n dX2_toNextToken_55 rfl rfl ?_
    refine j_getf dX2_toNextToken_56 2 4 rfl (Nat.le_of_ble_eq_true rfl) fl_X2_102 in_2 (by first | exact ups_a | exact RH_tape h19 | exact RH_dr) rfl ?_
    refine j_aload_n dX2_toNextToken_59 rfl rfl ?_
    refine j_getf dX2_toNextToken_60 2 2 rfl (Nat.le_of_ble_eq_true rfl) fl_X2_118 in_2 (by first | exact ups_a | exact RH_tape h19 | exact RH_dr) rfl ?_
    refine j_icmp_ltN 74 dX2_toNextToken_63 (by decide) (by omega) (by omega) (fun b63 => ?_) (fun b63 => ?_)
    · rw [if_neg (by omega)] at htu
      refine j_aload_n dX2_toNextToken_74 rfl rfl ?_
      refine j_getf dX2_toNextToken_75 2 0 rfl (Nat.le_of_ble_eq_true rfl) fl_X2_9 in_2 (by first | exact ups_a | exact RH_tape h19 | exact RH_dr) rfl ?_
      refine j_aload_n dX2_toNextToken_78 rfl rfl ?_
      refine j_getf dX2_toNextToken_79 2 4 rfl (Nat.le_of_ble_eq_true rfl) fl_X2_102 in_2 (by first | exact ups_a | exact RH_tape h19 | exact RH_dr) rfl ?_
      refine j_bald dX2_toNextToken_82 (by first | exact ups_a | exact RH_tape h19 | exact RH_dr) rfl (by omega) (by decide) ?_
      refine j_callS (c_isLetter _) dX2_toNextToken_83 rfl ms_X2_123 ⟨(Nat.le_of_ble_eq_true rfl), (Nat.le_of_ble_eq_true rfl)⟩ ⟨(Nat.le_of_ble_eq_true rfl), (Nat.le_of_ble_eq_true rfl)⟩ (Nat.le_of_ble_eq_true rfl) ?_
      refine j_if_eq 96 dX2_toNextToken_86 (by decide) (fun b86 => ?_) (fun b86 => ?_)
      · rw [if_neg (by rw [b2I_0 b86]; decide)] at htu
        refine j_aload_n dX2_toNextToken_96 rfl rfl ?_
        refine j_getf dX2_toNextToken_97 2 0 rfl (Nat.le_of_ble_eq_true rfl) fl_X2_9 in_2 (by first | exact ups_a | exact RH_tape h19 | exact RH_dr) rfl ?_
        refine j_aload_n dX2_toNextToken_100 rfl rfl ?_
        refine j_getf dX2_toNextToken_101 2 4 rfl (Nat.le_of_ble_eq_true rfl) fl_X2_102 in_2 (by first | exact ups_a | exact RH_tape h19 | exact RH_dr) rfl ?_
        refine j_bald dX2_toNextToken_104 (by first | exact ups_a | exact RH_tape h19 | exact RH_dr) rfl (by omega) (by decide) ?_
        refine j_callS (c_isFigure _) dX2_toNextToken_105 rfl ms_X2_129 ⟨(Nat.le_of_ble_eq_true rfl), (Nat.le_of_ble_eq_true rfl)⟩ ⟨(Nat.le_of_ble_eq_true rfl), (Nat.le_of_ble_eq_true rfl)⟩ (Nat.le_of_ble_eq_true rfl) ?_
        refine j_if_eq 118 dX2_toNextToken_108 (by decide) (fun b108 => ?_) (fun b108 => ?_)
        · rw [if_neg (by rw [b2I_0 b108]; decide)] at htu
          refine j_aload_n dX2_toNextToken_118 rfl rfl ?_
          refine j_aload_n dX2_toNextToken_119 rfl rfl ?_
          refine j_getf dX2_toNextToken_120 2 0 rfl (Nat.le_of_ble_eq_true rfl) fl_X2_9 in_2 (by first | exact ups_a | exact RH_tape h19 | exact RH_dr) rfl ?_
          refine j_aload_n dX2_toNextToken_123 rfl rfl ?_
          refine j_getf dX2_toNextToken_124 2 4 rfl (Nat.le_of_ble_eq_true rfl) fl_X2_102 in_2 (by first | exact ups_a | exact RH_tape h19 | exact RH_dr) rfl ?_
          refine j_bald dX2_toNextToken_127 (by first | exact ups_a | exact RH_tape h19 | exact RH_dr) rfl (by omega) (by decide) ?_
          refine j_bipush (nI 59) dX2_toNextToken_128 rfl ?_
          refine j_icmp_ne 137 dX2_toNextToken_130 (by decide) (fun b130 => ?_) (fun b130 => ?_)
          · rw [if_neg b130] at htu
            refine j_iconst (nI 4) dX2_toNextToken_137 rfl ?_
            refine j_putf dX2_toNextToken_138 2 3 rfl (Nat.le_of_ble_eq_true rfl) fl_X2_42 in_2 tyX2 tyX2_ok nmX2 rfl rfl (by first | exact ups_a | exact RH_tape h19 | exact RH_dr) (Nat.le_of_ble_eq_true rfl) _ (by exact ups_ups) ?_
            refine j_aload_n dX2_toNextToken_141 rfl rfl ?_
            refine j_aload_n dX2_toNextToken_142 rfl rfl ?_
            refine j_getf dX2_toNextToken_143 2 4 rfl (Nat.le_of_ble_eq_true rfl) fl_X2_102 in_2 (by first | exact ups_a | exact RH_tape h19 | exact RH_dr) rfl ?_
            refine j_iconst (nI 1) dX2_toNextToken_146 rfl ?_
            first | refine j_iaddN dX2_toNextToken_147 ?_ | refine j_iadd dX2_toNextToken_147 ?_
            refine j_putf dX2_toNextToken_148 2 5 rfl (Nat.le_of_ble_eq_true rfl) fl_X2_22 in_2 tyX2 tyX2_ok nmX2 rfl rfl (by first | exact ups_a | exact RH_tape h19 | exact RH_dr) (Nat.le_of_ble_eq_true rfl) _ (by exact ups_ups) ?_
            exact j_vret rfl dX2_toNextToken_151 (by rw [htu] <;> rfl) (Nat.le_of_ble_eq_true rfl) (Nat.le_of_ble_eq_true rfl)
          · rw [if_pos b130] at htu
            refine j_iconst (nI 3) dX2_toNextToken_133 rfl ?_
            refine j_goto 138 dX2_toNextToken_134 (by decide) ?_
            refine j_putf dX2_toNextToken_138 2 3 rfl (Nat.le_of_ble_eq_true rfl) fl_X2_42 in_2 tyX2 tyX2_ok nmX2 rfl rfl (by first | exact ups_a | exact RH_tape h19 | exact RH_dr) (Nat.le_of_ble_eq_true rfl) _ (by exact ups_ups) ?_
            refine j_aload_n dX2_toNextToken_141 rfl rfl ?_
            refine j_aload_n dX2_toNextToken_142 rfl rfl ?_
            refine j_getf dX2_toNextToken_143 2 4 rfl (Nat.le_of_ble_eq_true rfl) fl_X2_102 in_2 (by first | exact ups_a | exact RH_tape h19 | exact RH_dr) rfl ?_
            refine j_iconst (nI 1) dX2_toNextToken_146 rfl ?_
            first | refine j_iaddN dX2_toNextToken_147 ?_ | refine j_iadd dX2_toNextToken_147 ?_
            refine j_putf dX2_toNextToken_148 2 5 rfl (Nat.le_of_ble_eq_true rfl) fl_X2_22 in_2 tyX2 tyX2_ok nmX2 rfl rfl (by first | exact ups_a | exact RH_tape h19 | exact RH_dr) (Nat.le_of_ble_eq_true rfl) _ (by exact ups_ups) ?_
            exact j_vret rfl dX2_toNextToken_151 (by rw [htu] <;> rfl) (Nat.le_of_ble_eq_true rfl) (Nat.le_of_ble_eq_true rfl)
        · rw [if_pos (b2I_1 b108)] at htu
          refine j_aload_n dX2_toNextToken_111 rfl rfl ?_
          refine j_callV (c_endNumber h19 h1 hl) dX2_toNextToken_112 rfl mv_X2_132 (by first | exact ups_a | exact RH_tape h19 | exact RH_dr) rfl ⟨(Nat.le_of_ble_eq_true rfl), (Nat.le_of_ble_eq_true rfl)⟩ ⟨(Nat.le_of_ble_eq_true rfl), (Nat.le_of_ble_eq_true rfl)⟩ (Nat.le_of_ble_eq_true rfl) ?_
          refine j_goto 151 dX2_toNextToken_115 (by decide) ?_
          exact j_vret rfl dX2_toNextToken_151 (by rw [htu] <;> rfl) (Nat.le_of_ble_eq_true rfl) (Nat.le_of_ble_eq_true rfl)
      · rw [if_pos (b2I_1 b86)] at htu
        refine j_aload_n dX2_toNextToken_89 rfl rfl ?_
        refine j_callV (c_endName h19 h1 hl) dX2_toNextToken_90 rfl mv_X2_126 (by first | exact ups_a | exact RH_tape h19 | exact RH_dr) rfl ⟨(Nat.le_of_ble_eq_true rfl), (Nat.le_of_ble_eq_true rfl)⟩ ⟨(Nat.le_of_ble_eq_true rfl), (Nat.le_of_ble_eq_true rfl)⟩ (Nat.le_of_ble_eq_true rfl) ?_
        refine j_goto 151 dX2_toNextToken_93 (by decide) ?_
        exact j_vret rfl dX2_toNextToken_151 (by rw [htu] <;> rfl) (Nat.le_of_ble_eq_true rfl) (Nat.le_of_ble_eq_true rfl)
    · rw [if_pos b63] at htu
      refine j_aload_n dX2_toNextToken_66 rfl rfl ?_
      refine j_iconst (nI 0) dX2_toNextToken_67 rfl ?_
      refine j_putf dX2_toNextToken_68 2 3 rfl (Nat.le_of_ble_eq_true rfl) fl_X2_42 in_2 tyX2 tyX2_ok nmX2 rfl rfl (by first | exact ups_a | exact RH_tape h19 | exact RH_dr) (Nat.le_of_ble_eq_true rfl) _ (by exact ups_ups) ?_
      refine j_goto 151 dX2_toNextToken_71 (by decide) ?_
      exact j_vret rfl dX2_toNextToken_151 (by rw [htu] <;> rfl) (Nat.le_of_ble_eq_true rfl) (Nat.le_of_ble_eq_true rfl)
  refine j_aload_n dX2_toNextToken_0 rfl rfl ?_
  refine j_aload_n dX2_toNextToken_1 rfl rfl ?_
  refine j_getf dX2_toNextToken_2 2 5 rfl (Nat.le_of_ble_eq_true rfl) fl_X2_22 in_2 (by first | exact ups_a | exact RH_tape h19 | exact RH_dr) rfl ?_
  refine j_putf dX2_toNextToken_5 2 4 rfl (Nat.le_of_ble_eq_true rfl) fl_X2_102 in_2 tyX2 tyX2_ok nmX2 rfl rfl (by first | exact ups_a | exact RH_tape h19 | exact RH_dr) (Nat.le_of_ble_eq_true rfl) _ (by exact ups_ups) ?_
  suffices H : ∀ (k e : Nat), e ≤ len → len < e + k → fstN (fun j => !isBl (tp j)) (len - e) e = tkS tp len r.2.2.1 → J G RX2 cX2_toNextToken 1 none (TQ G 3 0 0 none z (RHr σ len (nextT tp len r) s)) z (RH σ len r.1 e r.2.2.1 r.2.2.2.1 r.2.2.2.2.1 r.2.2.2.2.2 s) 0 0 8 [some (.ref 18)] [] from H (len + 1) r.2.2.1 hr (by omega) rfl
  intro k
  induction k with
  | zero => intro e h1 h2; exact absurd h2 (by omega)
  | succ k ih =>
    intro e h1 h2 hf
    refine j_aload_n dX2_toNextToken_8 rfl rfl ?_
    refine j_getf dX2_toNextToken_9 2 4 rfl (Nat.le_of_ble_eq_true rfl) fl_X2_102 in_2 (by first | exact ups_a | exact RH_tape h19 | exact RH_dr) rfl ?_
    refine j_aload_n dX2_toNextToken_12 rfl rfl ?_
    refine j_getf dX2_toNextToken_13 2 2 rfl (Nat.le_of_ble_eq_true rfl) fl_X2_118 in_2 (by first | exact ups_a | exact RH_tape h19 | exact RH_dr) rfl ?_
    refine j_icmp_geN 47 dX2_toNextToken_16 (by decide) (by omega) (by omega) (fun b16 => ?_) (fun b16 => ?_)
    · have he : e = tkS tp len r.2.2.1 := by
        by_cases hle : len ≤ e
        · rw [show len - e = 0 by omega] at hf; exact hf
        · obtain ⟨n, hn⟩ : ∃ n, len - e = n + 1 := ⟨len - e - 1, by omega⟩
          rw [hn] at hf
          have hf2 : (if (!isBl (tp e)) = true then e else fstN (fun j => !isBl (tp j)) n (e + 1)) = tkS tp len r.2.2.1 := hf
          first | omega | (rw [b2I_0 b31] at hf2; exact hf2) | done
      rw [← he] at hend
      exact hend
    · refine j_aload_n dX2_toNextToken_19 rfl rfl ?_
      refine j_getf dX2_toNextToken_20 2 0 rfl (Nat.le_of_ble_eq_true rfl) fl_X2_9 in_2 (by first | exact ups_a | exact RH_tape h19 | exact RH_dr) rfl ?_
      refine j_aload_n dX2_toNextToken_23 rfl rfl ?_
      refine j_getf dX2_toNextToken_24 2 4 rfl (Nat.le_of_ble_eq_true rfl) fl_X2_102 in_2 (by first | exact ups_a | exact RH_tape h19 | exact RH_dr) rfl ?_
      refine j_bald dX2_toNextToken_27 (by first | exact ups_a | exact RH_tape h19 | exact RH_dr) rfl (by omega) (by decide) ?_
      refine j_callS (c_isBlank _) dX2_toNextToken_28 rfl ms_X2_120 ⟨(Nat.le_of_ble_eq_true rfl), (Nat.le_of_ble_eq_true rfl)⟩ ⟨(Nat.le_of_ble_eq_true rfl), (Nat.le_of_ble_eq_true rfl)⟩ (Nat.le_of_ble_eq_true rfl) ?_
      refine j_if_eq 47 dX2_toNextToken_31 (by decide) (fun b31 => ?_) (fun b31 => ?_)
      · have he : e = tkS tp len r.2.2.1 := by
          by_cases hle : len ≤ e
          · rw [show len - e = 0 by omega] at hf; exact hf
          · obtain ⟨n, hn⟩ : ∃ n, len - e = n + 1 := ⟨len - e - 1, by omega⟩
            rw [hn] at hf
            have hf2 : (if (!isBl (tp e)) = true then e else fstN (fun j => !isBl (tp j)) n (e + 1)) = tkS tp len r.2.2.1 := hf
            first | omega | (rw [b2I_0 b31] at hf2; exact hf2) | done
        rw [← he] at hend
        exact hend
      · refine j_aload_n dX2_toNextToken_34 rfl rfl ?_
        refine j_dup dX2_toNextToken_35 rfl ?_
        refine j_getf dX2_toNextToken_36 2 4 rfl (Nat.le_of_ble_eq_true rfl) fl_X2_102 in_2 (by first | exact ups_a | exact RH_tape h19 | exact RH_dr) rfl ?_
        refine j_iconst (nI 1) dX2_toNextToken_39 rfl ?_
        first | refine j_iaddN dX2_toNextToken_40 ?_ | refine j_iadd dX2_toNextToken_40 ?_
        refine j_putf dX2_toNextToken_41 2 4 rfl (Nat.le_of_ble_eq_true rfl) fl_X2_102 in_2 tyX2 tyX2_ok nmX2 rfl rfl (by first | exact ups_a | exact RH_tape h19 | exact RH_dr) (Nat.le_of_ble_eq_true rfl) _ (by exact ups_ups) ?_
        refine j_goto 8 dX2_toNextToken_44 (by decide) ?_
        refine ih (e + 1) (by omega) (by omega) ?_
        rw [show len - e = (len - (e + 1)) + 1 by omega] at hf
        rw [← hf]
        show _ = if (!isBl (tp e)) = true then e else fstN (fun j => !isBl (tp j)) (len - (e + 1)) (e + 1)
        rw [if_neg (by rw [b2I_1 b31]; decide)]
theorem c_hasFault (n : Nat) : Ct G yX2_hasFault cX2_hasFault 2 (some .boolean) 1 0 0 z (RHr σ len r s) [.ref 18, .int (nI n)] (some (.int (nI 0))) z (RHr σ len (hsF n r) s) := by
  refine Ct.ofJ RX2 rfl [some (.ref 18), some (.int (nI n))] rfl (by decide) Nat.le.refl ?_
  refine j_aload_n dX2_hasFault_0 rfl rfl ?_
  refine j_iload_n dX2_hasFault_1 rfl rfl ?_
  refine j_putf dX2_hasFault_2 2 8 rfl (Nat.le_of_ble_eq_true rfl) fl_X2_99 in_2 tyX2 tyX2_ok nmX2 rfl rfl ups_a (Nat.le_of_ble_eq_true rfl) _ (by exact ups_ups) ?_
  refine j_iconst (nI 0) dX2_hasFault_5 rfl ?_
  exact j_zret .boolean rfl rfl dX2_hasFault_6 rfl rfl (Nat.le_of_ble_eq_true rfl) (Nat.le_of_ble_eq_true rfl)
theorem c_isAtWord {i : Nat} (h19 : σ 19 = some (.inl (1, 400, tp))) (hi : i < 5) (hr : rOK len r) (hs : r.1 ≤ 4) (hl : len ≤ 400) : Ct G yX2_isAtWord cX2_isAtWord 3 (some .boolean) 5 0 0 z (RHr σ len r s) [.ref 18, .ref (EXT + i)] (some (.int (b2I (atI tp r i)))) z (RHr σ len r s) := by
  refine Ct.ofJ RX2 rfl [some (.ref 18), some (.ref (EXT + i)), none] rfl (by decide) (by simp [Value.category]) ?_
  have hn := lnS_le i hi
  obtain ⟨hr1, hr2⟩ := hr
  by_cases hA : r.1 = 1
  · by_cases hB : r.2.2.1 - r.2.1 = lnS i
    · refine j_aload_n dX2_isAtWord_0 rfl rfl ?_
      refine j_getf dX2_isAtWord_1 2 3 rfl (Nat.le_of_ble_eq_true rfl) fl_X2_42 in_2 (by first | exact ups_a | exact RH_tape h19 | exact RH_dr) rfl ?_
      refine j_iconst (nI 1) dX2_isAtWord_4 rfl ?_
      refine j_icmp_neN 24 dX2_isAtWord_5 (by decide) (by omega) (by omega) (fun b5 => by exact absurd hA b5) (fun b5 => ?_)
      refine j_aload_n dX2_isAtWord_8 rfl rfl ?_
      refine j_getf dX2_isAtWord_9 2 5 rfl (Nat.le_of_ble_eq_true rfl) fl_X2_22 in_2 (by first | exact ups_a | exact RH_tape h19 | exact RH_dr) rfl ?_
      refine j_aload_n dX2_isAtWord_12 rfl rfl ?_
      refine j_getf dX2_isAtWord_13 2 4 rfl (Nat.le_of_ble_eq_true rfl) fl_X2_102 in_2 (by first | exact ups_a | exact RH_tape h19 | exact RH_dr) rfl ?_
      refine j_isubN dX2_isAtWord_16 hr1 ?_
      refine j_aload_n dX2_isAtWord_17 rfl rfl ?_
      refine j_callVS hi rfl (c_slength hi) dX2_isAtWord_18 rfl mv_X2_105 ⟨(Nat.le_of_ble_eq_true rfl), (Nat.le_of_ble_eq_true rfl)⟩ ⟨(Nat.le_of_ble_eq_true rfl), (Nat.le_of_ble_eq_true rfl)⟩ (Nat.le_of_ble_eq_true rfl) ?_
      refine j_icmp_eqN 26 dX2_isAtWord_21 (by decide) (by omega) (by omega) (fun b21 => ?_) (fun b21 => by exact absurd hB b21)
      refine j_iconst (nI 0) dX2_isAtWord_26 rfl ?_
      refine j_istore_n dX2_isAtWord_27 rfl (Nat.le_of_ble_eq_true rfl) rfl ?_
      suffices H : ∀ (kk k : Nat), k ≤ lnS i → lnS i < k + kk → (∀ q, q < k → tp (r.2.1 + q) = btS i q) → J G RX2 cX2_isAtWord 3 (some .boolean) (TQ G 5 0 0 (some (.int (b2I (atI tp r i)))) z (RHr σ len r s)) z (RHr σ len r s) 0 0 28 [some (.ref 18), some (.ref (EXT + i)), some (.int (nI k))] [] from H (lnS i + 1) 0 (by omega) (by omega) (fun q h => by omega)
      intro kk
      induction kk with
      | zero => intro k h1 h2; exact absurd h2 (by omega)
      | succ kk ih =>
        intro k h1 h2 hq
        refine j_iload_n dX2_isAtWord_28 rfl rfl ?_
        refine j_aload_n dX2_isAtWord_29 rfl rfl ?_
        refine j_callVS hi rfl (c_slength hi) dX2_isAtWord_30 rfl mv_X2_105 ⟨(Nat.le_of_ble_eq_true rfl), (Nat.le_of_ble_eq_true rfl)⟩ ⟨(Nat.le_of_ble_eq_true rfl), (Nat.le_of_ble_eq_true rfl)⟩ (Nat.le_of_ble_eq_true rfl) ?_
        refine j_icmp_geN 63 dX2_isAtWord_33 (by decide) (by omega) (by omega) (fun b33 => ?_) (fun b33 => ?_)
        · refine j_iconst (nI 1) dX2_isAtWord_63 rfl ?_
          exact j_zret .boolean rfl rfl dX2_isAtWord_64 (by rw [atI_y ⟨hA, by omega, fun q h => hq q (by omega)⟩]; rfl) rfl (Nat.le_of_ble_eq_true rfl) (Nat.le_of_ble_eq_true rfl)
        · refine j_aload_n dX2_isAtWord_36 rfl rfl ?_
          refine j_getf dX2_isAtWord_37 2 0 rfl (Nat.le_of_ble_eq_true rfl) fl_X2_9 in_2 (by first | exact ups_a | exact RH_tape h19 | exact RH_dr) rfl ?_
          refine j_aload_n dX2_isAtWord_40 rfl rfl ?_
          refine j_getf dX2_isAtWord_41 2 4 rfl (Nat.le_of_ble_eq_true rfl) fl_X2_102 in_2 (by first | exact ups_a | exact RH_tape h19 | exact RH_dr) rfl ?_
          refine j_iload_n dX2_isAtWord_44 rfl rfl ?_
          first | refine j_iaddN dX2_isAtWord_45 ?_ | refine j_iadd dX2_isAtWord_45 ?_
          refine j_bald dX2_isAtWord_46 (by first | exact ups_a | exact RH_tape h19 | exact RH_dr) rfl (by omega) (by decide) ?_
          refine j_aload_n dX2_isAtWord_47 rfl rfl ?_
          refine j_iload_n dX2_isAtWord_48 rfl rfl ?_
          refine j_callVS hi rfl (c_scharAt hi (show k < lnS i by omega)) dX2_isAtWord_49 rfl mv_X2_111 ⟨(Nat.le_of_ble_eq_true rfl), (Nat.le_of_ble_eq_true rfl)⟩ ⟨(Nat.le_of_ble_eq_true rfl), (Nat.le_of_ble_eq_true rfl)⟩ (Nat.le_of_ble_eq_true rfl) ?_
          refine j_icmp_eq 57 dX2_isAtWord_52 (by decide) (fun b52 => ?_) (fun b52 => ?_)
          · first | refine j_iincN dX2_isAtWord_57 rfl (Nat.le_of_ble_eq_true rfl) rfl ?_ | refine j_iinc _ dX2_isAtWord_57 rfl rfl (Nat.le_of_ble_eq_true rfl) rfl ?_
            refine j_goto 28 dX2_isAtWord_60 (by decide) ?_
            refine ih (k + 1) (by omega) (by omega) (fun q h => ?_)
            rcases Nat.lt_or_ge q k with w | w
            · exact hq q w
            · rw [show q = k by omega]; exact b52
          · refine j_iconst (nI 0) dX2_isAtWord_55 rfl ?_
            exact j_zret .boolean rfl rfl dX2_isAtWord_56 (by rw [atI_n (fun q => b52 (q.2.2 k (by omega)))]; rfl) rfl (Nat.le_of_ble_eq_true rfl) (Nat.le_of_ble_eq_true rfl)
    · refine j_aload_n dX2_isAtWord_0 rfl rfl ?_
      refine j_getf dX2_isAtWord_1 2 3 rfl (Nat.le_of_ble_eq_true rfl) fl_X2_42 in_2 (by first | exact ups_a | exact RH_tape h19 | exact RH_dr) rfl ?_
      refine j_iconst (nI 1) dX2_isAtWord_4 rfl ?_
      refine j_icmp_neN 24 dX2_isAtWord_5 (by decide) (by omega) (by omega) (fun b5 => by exact absurd hA b5) (fun b5 => ?_)
      refine j_aload_n dX2_isAtWord_8 rfl rfl ?_
      refine j_getf dX2_isAtWord_9 2 5 rfl (Nat.le_of_ble_eq_true rfl) fl_X2_22 in_2 (by first | exact ups_a | exact RH_tape h19 | exact RH_dr) rfl ?_
      refine j_aload_n dX2_isAtWord_12 rfl rfl ?_
      refine j_getf dX2_isAtWord_13 2 4 rfl (Nat.le_of_ble_eq_true rfl) fl_X2_102 in_2 (by first | exact ups_a | exact RH_tape h19 | exact RH_dr) rfl ?_
      refine j_isubN dX2_isAtWord_16 hr1 ?_
      refine j_aload_n dX2_isAtWord_17 rfl rfl ?_
      refine j_callVS hi rfl (c_slength hi) dX2_isAtWord_18 rfl mv_X2_105 ⟨(Nat.le_of_ble_eq_true rfl), (Nat.le_of_ble_eq_true rfl)⟩ ⟨(Nat.le_of_ble_eq_true rfl), (Nat.le_of_ble_eq_true rfl)⟩ (Nat.le_of_ble_eq_true rfl) ?_
      refine j_icmp_eqN 26 dX2_isAtWord_21 (by decide) (by omega) (by omega) (fun b21 => by exact absurd b21 hB) (fun b21 => ?_)
      refine j_iconst (nI 0) dX2_isAtWord_24 rfl ?_
      exact j_zret .boolean rfl rfl dX2_isAtWord_25 (by rw [atI_n (fun q => hB (by have := q.2.1; omega))]; rfl) rfl (Nat.le_of_ble_eq_true rfl) (Nat.le_of_ble_eq_true rfl)
  · refine j_aload_n dX2_isAtWord_0 rfl rfl ?_
    refine j_getf dX2_isAtWord_1 2 3 rfl (Nat.le_of_ble_eq_true rfl) fl_X2_42 in_2 (by first | exact ups_a | exact RH_tape h19 | exact RH_dr) rfl ?_
    refine j_iconst (nI 1) dX2_isAtWord_4 rfl ?_
    refine j_icmp_neN 24 dX2_isAtWord_5 (by decide) (by omega) (by omega) (fun b5 => ?_) (fun b5 => by exact absurd b5 hA)
    refine j_iconst (nI 0) dX2_isAtWord_24 rfl ?_
    exact j_zret .boolean rfl rfl dX2_isAtWord_25 (by rw [atI_n (fun q => hA q.1)]; rfl) rfl (Nat.le_of_ble_eq_true rfl) (Nat.le_of_ble_eq_true rfl)
theorem c_takesWord {i : Nat} (h19 : σ 19 = some (.inl (1, 400, tp))) (hi : i < 5) (hr : rOK len r) (hs : r.1 ≤ 4) (hl : len ≤ 400) : Ct G yX2_takesWord cX2_takesWord 2 (some .boolean) 6 0 0 z (RHr σ len r s) [.ref 18, .ref (EXT + i)] (some (.int (b2I (tWord tp len i r).1))) z (RHr σ len (tWord tp len i r).2 s) := by
  refine Ct.ofJ RX2 rfl [some (.ref 18), some (.ref (EXT + i))] rfl (by decide) Nat.le.refl ?_
  refine j_aload_n dX2_takesWord_0 rfl rfl ?_
  refine j_aload_n dX2_takesWord_1 rfl rfl ?_
  refine j_callV (c_isAtWord h19 hi hr hs hl) dX2_takesWord_2 rfl mv_X2_73 (by first | exact ups_a | exact RH_tape h19 | exact RH_dr) rfl ⟨(Nat.le_of_ble_eq_true rfl), (Nat.le_of_ble_eq_true rfl)⟩ ⟨(Nat.le_of_ble_eq_true rfl), (Nat.le_of_ble_eq_true rfl)⟩ (Nat.le_of_ble_eq_true rfl) ?_
  refine j_if_ne 14 dX2_takesWord_5 (by decide) (fun b5 => ?_) (fun b5 => ?_)
  · refine j_aload_n dX2_takesWord_14 rfl rfl ?_
    refine j_callV (c_toNextToken h19 hr.2 hs hl) dX2_takesWord_15 rfl mv_X2_29 (by first | exact ups_a | exact RH_tape h19 | exact RH_dr) rfl ⟨(Nat.le_of_ble_eq_true rfl), (Nat.le_of_ble_eq_true rfl)⟩ ⟨(Nat.le_of_ble_eq_true rfl), (Nat.le_of_ble_eq_true rfl)⟩ (Nat.le_of_ble_eq_true rfl) ?_
    refine j_iconst (nI 1) dX2_takesWord_18 rfl ?_
    exact j_zret .boolean rfl rfl dX2_takesWord_19 (by unfold tWord; rw [if_pos (b2I_1 b5)]; rfl) (by unfold tWord; rw [if_pos (b2I_1 b5)]) (Nat.le_of_ble_eq_true rfl) (Nat.le_of_ble_eq_true rfl)
  · refine j_aload_n dX2_takesWord_8 rfl rfl ?_
    refine j_iconst (nI 1) dX2_takesWord_9 rfl ?_
    refine j_callV (c_hasFault 1) dX2_takesWord_10 rfl mv_X2_45 (by first | exact ups_a | exact RH_tape h19 | exact RH_dr) rfl ⟨(Nat.le_of_ble_eq_true rfl), (Nat.le_of_ble_eq_true rfl)⟩ ⟨(Nat.le_of_ble_eq_true rfl), (Nat.le_of_ble_eq_true rfl)⟩ (Nat.le_of_ble_eq_true rfl) ?_
    exact j_zret .boolean rfl rfl dX2_takesWord_13 (by unfold tWord; rw [if_neg (by rw [b2I_0 b5]; decide)]; rfl) (by unfold tWord; rw [if_neg (by rw [b2I_0 b5]; decide)]) (Nat.le_of_ble_eq_true rfl) (Nat.le_of_ble_eq_true rfl)
theorem c_takesSign (h19 : σ 19 = some (.inl (1, 400, tp))) (hr : rOK len r) (hs : r.1 ≤ 4) (hl : len ≤ 400) : Ct G yX2_takesSign cX2_takesSign 1 (some .boolean) 4 0 0 z (RHr σ len r s) [.ref 18] (some (.int (b2I (tSign tp len r).1))) z (RHr σ len (tSign tp len r).2 s) := by
  refine Ct.ofJ RX2 rfl [some (.ref 18)] rfl (by decide) Nat.le.refl ?_
  refine j_aload_n dX2_takesSign_0 rfl rfl ?_
  refine j_getf dX2_takesSign_1 2 3 rfl (Nat.le_of_ble_eq_true rfl) fl_X2_42 in_2 (by first | exact ups_a | exact RH_tape h19 | exact RH_dr) rfl ?_
  refine j_iconst (nI 3) dX2_takesSign_4 rfl ?_
  refine j_icmp_eqN 14 dX2_takesSign_5 (by decide) (by omega) (by omega) (fun b5 => ?_) (fun b5 => ?_)
  · refine j_aload_n dX2_takesSign_14 rfl rfl ?_
    refine j_callV (c_toNextToken h19 hr.2 hs hl) dX2_takesSign_15 rfl mv_X2_29 (by first | exact ups_a | exact RH_tape h19 | exact RH_dr) rfl ⟨(Nat.le_of_ble_eq_true rfl), (Nat.le_of_ble_eq_true rfl)⟩ ⟨(Nat.le_of_ble_eq_true rfl), (Nat.le_of_ble_eq_true rfl)⟩ (Nat.le_of_ble_eq_true rfl) ?_
    refine j_iconst (nI 1) dX2_takesSign_18 rfl ?_
    exact j_zret .boolean rfl rfl dX2_takesSign_19 (by unfold tSign; rw [if_pos b5]; rfl) (by unfold tSign; rw [if_pos b5]) (Nat.le_of_ble_eq_true rfl) (Nat.le_of_ble_eq_true rfl)
  · refine j_aload_n dX2_takesSign_8 rfl rfl ?_
    refine j_iconst (nI 1) dX2_takesSign_9 rfl ?_
    refine j_callV (c_hasFault 1) dX2_takesSign_10 rfl mv_X2_45 (by first | exact ups_a | exact RH_tape h19 | exact RH_dr) rfl ⟨(Nat.le_of_ble_eq_true rfl), (Nat.le_of_ble_eq_true rfl)⟩ ⟨(Nat.le_of_ble_eq_true rfl), (Nat.le_of_ble_eq_true rfl)⟩ (Nat.le_of_ble_eq_true rfl) ?_
    exact j_zret .boolean rfl rfl dX2_takesSign_13 (by unfold tSign; rw [if_neg b5]; rfl) (by unfold tSign; rw [if_neg b5]) (Nat.le_of_ble_eq_true rfl) (Nat.le_of_ble_eq_true rfl)
theorem c_takesNumber (lo hi nt : Int32) (h19 : σ 19 = some (.inl (1, 400, tp))) (hr : rOK len r) (hs : r.1 ≤ 4) (hl : len ≤ 400) : Ct G yX2_takesNumber cX2_takesNumber 4 (some .boolean) 4 0 0 z (RHr σ len r s) [.ref 18, .int lo, .int hi, .int nt] (some (.int (b2I (tNum tp len lo hi nt r).1))) z (RHr σ len (tNum tp len lo hi nt r).2 s) := by
  refine Ct.ofJ RX2 rfl [some (.ref 18), some (.int lo), some (.int hi), some (.int nt)] rfl (by decide) Nat.le.refl ?_
  refine j_aload_n dX2_takesNumber_0 rfl rfl ?_
  refine j_getf dX2_takesNumber_1 2 3 rfl (Nat.le_of_ble_eq_true rfl) fl_X2_42 in_2 (by first | exact ups_a | exact RH_tape h19 | exact RH_dr) rfl ?_
  refine j_iconst (nI 2) dX2_takesNumber_4 rfl ?_
  refine j_icmp_eqN 14 dX2_takesNumber_5 (by decide) (by omega) (by omega) (fun b5 => ?_) (fun b5 => ?_)
  · refine j_aload_n dX2_takesNumber_14 rfl rfl ?_
    refine j_getf dX2_takesNumber_15 2 6 rfl (Nat.le_of_ble_eq_true rfl) fl_X2_115 in_2 (by first | exact ups_a | exact RH_tape h19 | exact RH_dr) rfl ?_
    refine j_iload_n dX2_takesNumber_18 rfl rfl ?_
    refine j_icmp_lt 38 dX2_takesNumber_19 (by decide) (fun b19 => ?_) (fun b19 => ?_)
    · refine j_aload_n dX2_takesNumber_38 rfl rfl ?_
      refine j_iconst (nI 2) dX2_takesNumber_39 rfl ?_
      refine j_callV (c_hasFault 2) dX2_takesNumber_40 rfl mv_X2_45 (by first | exact ups_a | exact RH_tape h19 | exact RH_dr) rfl ⟨(Nat.le_of_ble_eq_true rfl), (Nat.le_of_ble_eq_true rfl)⟩ ⟨(Nat.le_of_ble_eq_true rfl), (Nat.le_of_ble_eq_true rfl)⟩ (Nat.le_of_ble_eq_true rfl) ?_
      exact j_zret .boolean rfl rfl dX2_takesNumber_43 (by unfold tNum; rw [if_pos b5]; (repeat' (first | contradiction | rfl | split))) (by unfold tNum; rw [if_pos b5]; (repeat' (first | contradiction | rfl | split))) (Nat.le_of_ble_eq_true rfl) (Nat.le_of_ble_eq_true rfl)
    · refine j_aload_n dX2_takesNumber_22 rfl rfl ?_
      refine j_getf dX2_takesNumber_23 2 6 rfl (Nat.le_of_ble_eq_true rfl) fl_X2_115 in_2 (by first | exact ups_a | exact RH_tape h19 | exact RH_dr) rfl ?_
      refine j_iload_n dX2_takesNumber_26 rfl rfl ?_
      refine j_icmp_gt 38 dX2_takesNumber_27 (by decide) (fun b27 => ?_) (fun b27 => ?_)
      · refine j_aload_n dX2_takesNumber_38 rfl rfl ?_
        refine j_iconst (nI 2) dX2_takesNumber_39 rfl ?_
        refine j_callV (c_hasFault 2) dX2_takesNumber_40 rfl mv_X2_45 (by first | exact ups_a | exact RH_tape h19 | exact RH_dr) rfl ⟨(Nat.le_of_ble_eq_true rfl), (Nat.le_of_ble_eq_true rfl)⟩ ⟨(Nat.le_of_ble_eq_true rfl), (Nat.le_of_ble_eq_true rfl)⟩ (Nat.le_of_ble_eq_true rfl) ?_
        exact j_zret .boolean rfl rfl dX2_takesNumber_43 (by unfold tNum; rw [if_pos b5]; (repeat' (first | contradiction | rfl | split))) (by unfold tNum; rw [if_pos b5]; (repeat' (first | contradiction | rfl | split))) (Nat.le_of_ble_eq_true rfl) (Nat.le_of_ble_eq_true rfl)
      · refine j_aload_n dX2_takesNumber_30 rfl rfl ?_
        refine j_getf dX2_takesNumber_31 2 6 rfl (Nat.le_of_ble_eq_true rfl) fl_X2_115 in_2 (by first | exact ups_a | exact RH_tape h19 | exact RH_dr) rfl ?_
        refine j_iload_n dX2_takesNumber_34 rfl rfl ?_
        refine j_icmp_ne 44 dX2_takesNumber_35 (by decide) (fun b35 => ?_) (fun b35 => ?_)
        · refine j_aload_n dX2_takesNumber_44 rfl rfl ?_
          refine j_aload_n dX2_takesNumber_45 rfl rfl ?_
          refine j_getf dX2_takesNumber_46 2 6 rfl (Nat.le_of_ble_eq_true rfl) fl_X2_115 in_2 (by first | exact ups_a | exact RH_tape h19 | exact RH_dr) rfl ?_
          refine j_putf dX2_takesNumber_49 2 7 rfl (Nat.le_of_ble_eq_true rfl) fl_X2_59 in_2 tyX2 tyX2_ok nmX2 rfl rfl (by first | exact ups_a | exact RH_tape h19 | exact RH_dr) (Nat.le_of_ble_eq_true rfl) _ (by exact ups_ups) ?_
          refine j_aload_n dX2_takesNumber_52 rfl rfl ?_
          refine j_callV (c_toNextToken (r := (r.1, r.2.1, r.2.2.1, r.2.2.2.1, r.2.2.2.1, r.2.2.2.2.2)) h19 hr.2 hs hl) dX2_takesNumber_53 rfl mv_X2_29 (by first | exact ups_a | exact RH_tape h19 | exact RH_dr) rfl ⟨(Nat.le_of_ble_eq_true rfl), (Nat.le_of_ble_eq_true rfl)⟩ ⟨(Nat.le_of_ble_eq_true rfl), (Nat.le_of_ble_eq_true rfl)⟩ (Nat.le_of_ble_eq_true rfl) ?_
          refine j_iconst (nI 1) dX2_takesNumber_56 rfl ?_
          exact j_zret .boolean rfl rfl dX2_takesNumber_57 (by unfold tNum; rw [if_pos b5, if_neg b19, if_neg b27, if_neg b35]; rfl) (by unfold tNum; rw [if_pos b5, if_neg b19, if_neg b27, if_neg b35]) (Nat.le_of_ble_eq_true rfl) (Nat.le_of_ble_eq_true rfl)
        · refine j_aload_n dX2_takesNumber_38 rfl rfl ?_
          refine j_iconst (nI 2) dX2_takesNumber_39 rfl ?_
          refine j_callV (c_hasFault 2) dX2_takesNumber_40 rfl mv_X2_45 (by first | exact ups_a | exact RH_tape h19 | exact RH_dr) rfl ⟨(Nat.le_of_ble_eq_true rfl), (Nat.le_of_ble_eq_true rfl)⟩ ⟨(Nat.le_of_ble_eq_true rfl), (Nat.le_of_ble_eq_true rfl)⟩ (Nat.le_of_ble_eq_true rfl) ?_
          exact j_zret .boolean rfl rfl dX2_takesNumber_43 (by unfold tNum; rw [if_pos b5]; (repeat' (first | contradiction | rfl | split))) (by unfold tNum; rw [if_pos b5]; (repeat' (first | contradiction | rfl | split))) (Nat.le_of_ble_eq_true rfl) (Nat.le_of_ble_eq_true rfl)
  · refine j_aload_n dX2_takesNumber_8 rfl rfl ?_
    refine j_iconst (nI 1) dX2_takesNumber_9 rfl ?_
    refine j_callV (c_hasFault 1) dX2_takesNumber_10 rfl mv_X2_45 (by first | exact ups_a | exact RH_tape h19 | exact RH_dr) rfl ⟨(Nat.le_of_ble_eq_true rfl), (Nat.le_of_ble_eq_true rfl)⟩ ⟨(Nat.le_of_ble_eq_true rfl), (Nat.le_of_ble_eq_true rfl)⟩ (Nat.le_of_ble_eq_true rfl) ?_
    exact j_zret .boolean rfl rfl dX2_takesNumber_13 (by unfold tNum; rw [if_neg b5]; rfl) (by unfold tNum; rw [if_neg b5]) (Nat.le_of_ble_eq_true rfl) (Nat.le_of_ble_eq_true rfl)
end K3

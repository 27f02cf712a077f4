/-! ROWS (two cells), ACTS, static tables -/
def rw' (σ : AH) (a : Nat) (it : Nat → Int32) (la le : Int32) : AH := fun k => if k = a then some (.inr (.inr (3, [.ref (a + 1), .int la, .int le]))) else if k = a + 1 then some (.inl (0, 40, it)) else σ k
section RW
variable {σ : AH} {a : Nat} {it it2 : Nat → Int32} {la le la2 le2 : Int32}
theorem rw_o : rw' σ a it la le a = some (.inr (.inr (3, [.ref (a + 1), .int la, .int le]))) := by simp [rw']
theorem rw_i : rw' σ a it la le (a + 1) = some (.inl (0, 40, it)) := by simp [rw']
theorem rw_x {k : Nat} (h : k < a ∨ a + 1 < k) : rw' σ a it la le k = σ k := by
  unfold rw'
  rw [if_neg (by omega), if_neg (by omega)]
theorem rws_o : ups (rw' σ a it la le) a (.inr (.inr (3, [.ref (a + 1), .int la2, .int le2]))) = rw' σ a it la2 le2 := by
  funext k; unfold ups rw'; split <;> simp_all
theorem rws_i : ups (rw' σ a it la le) (a + 1) (.inl (0, 40, it2)) = rw' σ a it2 la le := by
  funext k; unfold ups rw'; split <;> simp_all
theorem rw_self (h1 : σ a = some (.inr (.inr (3, [.ref (a + 1), .int la, .int le])))) (h2 : σ (a + 1) = some (.inl (0, 40, it))) : rw' σ a it la le = σ := by
  funext k
  unfold rw'
  by_cases e1 : k = a
  · subst e1; rw [if_pos rfl, h1]
  · rw [if_neg e1]
    by_cases e2 : k = a + 1
    · subst e2; rw [if_pos rfl, h2]
    · rw [if_neg e2]
end RW
theorem tw_self {σ : AH} {t : Nat} {ca inc pa de : Nat → Int32} {pe un ra qu hi fa : Int32} (h0 : σ t = some (.inr (.inr (4, [.ref (t + 1), .ref (t + 2), .ref (t + 3), .ref (t + 4), .int pe, .int un, .int ra, .int qu, .int hi, .int fa])))) (h1 : σ (t + 1) = some (.inl (0, 7, ca))) (h2 : σ (t + 2) = some (.inl (0, 7, inc))) (h3 : σ (t + 3) = some (.inl (0, 7, pa))) (h4 : σ (t + 4) = some (.inl (0, 49, de))) : tw σ t ca inc pa de pe un ra qu hi fa = σ := by
  funext k
  unfold tw
  by_cases e0 : k = t
  · subst e0; rw [if_pos rfl, h0]
  · rw [if_neg e0]
    by_cases e1 : k = t + 1
    · subst e1; rw [if_pos rfl, h1]
    · rw [if_neg e1]
      by_cases e2 : k = t + 2
      · subst e2; rw [if_pos rfl, h2]
      · rw [if_neg e2]
        by_cases e3 : k = t + 3
        · subst e3; rw [if_pos rfl, h3]
        · rw [if_neg e3]
          by_cases e4 : k = t + 4
          · subst e4; rw [if_pos rfl, h4]
          · rw [if_neg e4]
section JT
variable {G : GG} {oR : String} {oc : ByteArray} {on : Nat} {ort : Option FieldType} {T : TG} {z kc ks pc : Nat} {σ : AH} {L : List (Option Value)} {st : List Value}
theorem j_gets {ix : Nat} (C n : String) (k : Nat) (hd : decode oc pc = .ok (.getstatic ix, 3)) (hl : Cond.fieldLink oR ix C n "[I" ∈ gw) (hz : ∀ (U : State) (H : Heap), Gx G U H → va_Z C n "[I" (.ref (ad G (EXT + k))) (AG G) U H) (kk : J G oR oc on ort T z σ kc ks (pc + 3) L (.ref (EXT + k) :: st)) : J G oR oc on ort T z σ kc ks pc L st := by
  intro p l e s m args below meth c H locs ls C0 X hw hS hL
  exact va_gets C0.1 C0.2.1 (hz _ _ C0.2.2.2.2.2.2.2.2.1) hS C0.2.2.2.2.1 (C0.2.2.2.2.2.1 _ hl) (fun _ h => h) hd (kk p l e s m args below meth c H locs ls C0 X hw hS hL)
theorem j_tld {q : Nat} {i : Int32} (k : Nat) (tb : List Int32) (hd : decode oc pc = .ok (.iaload, 1)) (hz : ∀ (U : State) (H : Heap), Gx G U H → va_T .int (ad G (EXT + k)) 6 (fun j => .int (tb.getD j 0)) (AG G) U H) (hi : i = nI q) (hq : q < 6) (v : Int32) (hv : tb.getD q 0 = v) (kk : J G oR oc on ort T z σ kc ks (pc + 1) L (.int v :: st)) : J G oR oc on ort T z σ kc ks pc L (.int i :: .ref (EXT + k) :: st) := by
  intro p l e s m args below meth c H locs ls C0 X hw hS hL
  subst hi; subst hv
  refine va_ti (v := .int (tb.getD q 0)) C0.1 C0.2.1 (hz _ _ C0.2.2.2.2.2.2.2.2.1) hS (vp_in_nI hq (by decide)) ?_ hd (kk p l e s m args below meth c H locs ls C0 X hw hS hL)
  rw [nI_clamp (by omega)]
end JT
theorem dX3_isMissing_0 : decode cX3_isMissing 0 = .ok (.aload_n 0, 1) := by decide +kernel
theorem dX3_isMissing_1 : decode cX3_isMissing 1 = .ok (.getfield 15, 3) := by decide +kernel
theorem dX3_isMissing_4 : decode cX3_isMissing 4 = .ok (.iconst (-1), 1) := by decide +kernel
theorem dX3_isMissing_5 : decode cX3_isMissing 5 = .ok (.if_icmp .ne 7, 3) := by decide +kernel
theorem dX3_isMissing_8 : decode cX3_isMissing 8 = .ok (.iconst 1, 1) := by decide +kernel
theorem dX3_isMissing_9 : decode cX3_isMissing 9 = .ok (.goto 4, 3) := by decide +kernel
theorem dX3_isMissing_12 : decode cX3_isMissing 12 = .ok (.iconst 0, 1) := by decide +kernel
theorem dX3_isMissing_13 : decode cX3_isMissing 13 = .ok (.ireturn, 1) := by decide +kernel
theorem dX3_begin_0 : decode cX3_begin 0 = .ok (.aload_n 0, 1) := by decide +kernel
theorem dX3_begin_1 : decode cX3_begin 1 = .ok (.iload_n 1, 1) := by decide +kernel
theorem dX3_begin_2 : decode cX3_begin 2 = .ok (.putfield 15, 3) := by decide +kernel
theorem dX3_begin_5 : decode cX3_begin 5 = .ok (.aload_n 0, 1) := by decide +kernel
theorem dX3_begin_6 : decode cX3_begin 6 = .ok (.iload_n 2, 1) := by decide +kernel
theorem dX3_begin_7 : decode cX3_begin 7 = .ok (.putfield 19, 3) := by decide +kernel
theorem dX3_begin_10 : decode cX3_begin 10 = .ok (.iconst 0, 1) := by decide +kernel
theorem dX3_begin_11 : decode cX3_begin 11 = .ok (.istore_n 3, 1) := by decide +kernel
theorem dX3_begin_12 : decode cX3_begin 12 = .ok (.iload_n 3, 1) := by decide +kernel
theorem dX3_begin_13 : decode cX3_begin 13 = .ok (.iload_n 2, 1) := by decide +kernel
theorem dX3_begin_14 : decode cX3_begin 14 = .ok (.if_icmp .ge 16, 3) := by decide +kernel
theorem dX3_begin_17 : decode cX3_begin 17 = .ok (.aload_n 0, 1) := by decide +kernel
theorem dX3_begin_18 : decode cX3_begin 18 = .ok (.getfield 9, 3) := by decide +kernel
theorem dX3_begin_21 : decode cX3_begin 21 = .ok (.iload_n 3, 1) := by decide +kernel
theorem dX3_begin_22 : decode cX3_begin 22 = .ok (.iconst 0, 1) := by decide +kernel
theorem dX3_begin_23 : decode cX3_begin 23 = .ok (.iastore, 1) := by decide +kernel
theorem dX3_begin_24 : decode cX3_begin 24 = .ok (.iinc 3 1, 3) := by decide +kernel
theorem dX3_begin_27 : decode cX3_begin 27 = .ok (.goto (-15), 3) := by decide +kernel
theorem dX3_begin_30 : decode cX3_begin 30 = .ok (.return_, 1) := by decide +kernel
theorem dX3_vanish_0 : decode cX3_vanish 0 = .ok (.aload_n 0, 1) := by decide +kernel
theorem dX3_vanish_1 : decode cX3_vanish 1 = .ok (.iconst (-1), 1) := by decide +kernel
theorem dX3_vanish_2 : decode cX3_vanish 2 = .ok (.putfield 15, 3) := by decide +kernel
theorem dX3_vanish_5 : decode cX3_vanish 5 = .ok (.aload_n 0, 1) := by decide +kernel
theorem dX3_vanish_6 : decode cX3_vanish 6 = .ok (.iconst 0, 1) := by decide +kernel
theorem dX3_vanish_7 : decode cX3_vanish 7 = .ok (.putfield 19, 3) := by decide +kernel
theorem dX3_vanish_10 : decode cX3_vanish 10 = .ok (.return_, 1) := by decide +kernel
theorem dX3_hasRange_0 : decode cX3_hasRange 0 = .ok (.iload_n 1, 1) := by decide +kernel
theorem dX3_hasRange_1 : decode cX3_hasRange 1 = .ok (.ifCond .lt 21, 3) := by decide +kernel
theorem dX3_hasRange_4 : decode cX3_hasRange 4 = .ok (.iload_n 2, 1) := by decide +kernel
theorem dX3_hasRange_5 : decode cX3_hasRange 5 = .ok (.ifCond .lt 17, 3) := by decide +kernel
theorem dX3_hasRange_8 : decode cX3_hasRange 8 = .ok (.iload_n 1, 1) := by decide +kernel
theorem dX3_hasRange_9 : decode cX3_hasRange 9 = .ok (.aload_n 0, 1) := by decide +kernel
theorem dX3_hasRange_10 : decode cX3_hasRange 10 = .ok (.getfield 19, 3) := by decide +kernel
theorem dX3_hasRange_13 : decode cX3_hasRange 13 = .ok (.iload_n 2, 1) := by decide +kernel
theorem dX3_hasRange_14 : decode cX3_hasRange 14 = .ok (.isub, 1) := by decide +kernel
theorem dX3_hasRange_15 : decode cX3_hasRange 15 = .ok (.if_icmp .gt 7, 3) := by decide +kernel
theorem dX3_hasRange_18 : decode cX3_hasRange 18 = .ok (.iconst 1, 1) := by decide +kernel
theorem dX3_hasRange_19 : decode cX3_hasRange 19 = .ok (.goto 4, 3) := by decide +kernel
theorem dX3_hasRange_22 : decode cX3_hasRange 22 = .ok (.iconst 0, 1) := by decide +kernel
theorem dX3_hasRange_23 : decode cX3_hasRange 23 = .ok (.ireturn, 1) := by decide +kernel
theorem dX3_put_0 : decode cX3_put 0 = .ok (.aload_n 0, 1) := by decide +kernel
theorem dX3_put_1 : decode cX3_put 1 = .ok (.getfield 15, 3) := by decide +kernel
theorem dX3_put_4 : decode cX3_put 4 = .ok (.ifCond .ne 14, 3) := by decide +kernel
theorem dX3_put_7 : decode cX3_put 7 = .ok (.aload_n 0, 1) := by decide +kernel
theorem dX3_put_8 : decode cX3_put 8 = .ok (.getfield 9, 3) := by decide +kernel
theorem dX3_put_11 : decode cX3_put 11 = .ok (.iload_n 1, 1) := by decide +kernel
theorem dX3_put_12 : decode cX3_put 12 = .ok (.iload_n 2, 1) := by decide +kernel
theorem dX3_put_13 : decode cX3_put 13 = .ok (.i2b, 1) := by decide +kernel
theorem dX3_put_14 : decode cX3_put 14 = .ok (.iastore, 1) := by decide +kernel
theorem dX3_put_15 : decode cX3_put 15 = .ok (.goto 29, 3) := by decide +kernel
theorem dX3_put_18 : decode cX3_put 18 = .ok (.aload_n 0, 1) := by decide +kernel
theorem dX3_put_19 : decode cX3_put 19 = .ok (.getfield 15, 3) := by decide +kernel
theorem dX3_put_22 : decode cX3_put 22 = .ok (.iconst 1, 1) := by decide +kernel
theorem dX3_put_23 : decode cX3_put 23 = .ok (.if_icmp .ne 14, 3) := by decide +kernel
theorem dX3_put_26 : decode cX3_put 26 = .ok (.aload_n 0, 1) := by decide +kernel
theorem dX3_put_27 : decode cX3_put 27 = .ok (.getfield 9, 3) := by decide +kernel
theorem dX3_put_30 : decode cX3_put 30 = .ok (.iload_n 1, 1) := by decide +kernel
theorem dX3_put_31 : decode cX3_put 31 = .ok (.iload_n 2, 1) := by decide +kernel
theorem dX3_put_32 : decode cX3_put 32 = .ok (.i2s, 1) := by decide +kernel
theorem dX3_put_33 : decode cX3_put 33 = .ok (.iastore, 1) := by decide +kernel
theorem dX3_put_34 : decode cX3_put 34 = .ok (.goto 10, 3) := by decide +kernel
theorem dX3_put_37 : decode cX3_put 37 = .ok (.aload_n 0, 1) := by decide +kernel
theorem dX3_put_38 : decode cX3_put 38 = .ok (.getfield 9, 3) := by decide +kernel
theorem dX3_put_41 : decode cX3_put 41 = .ok (.iload_n 1, 1) := by decide +kernel
theorem dX3_put_42 : decode cX3_put 42 = .ok (.iload_n 2, 1) := by decide +kernel
theorem dX3_put_43 : decode cX3_put 43 = .ok (.iastore, 1) := by decide +kernel
theorem dX3_put_44 : decode cX3_put 44 = .ok (.aload_n 0, 1) := by decide +kernel
theorem dX3_put_45 : decode cX3_put 45 = .ok (.getfield 9, 3) := by decide +kernel
theorem dX3_put_48 : decode cX3_put 48 = .ok (.iload_n 1, 1) := by decide +kernel
theorem dX3_put_49 : decode cX3_put 49 = .ok (.iaload, 1) := by decide +kernel
theorem dX3_put_50 : decode cX3_put 50 = .ok (.ireturn, 1) := by decide +kernel
theorem dX0_forgetAll_0 : decode cX0_forgetAll 0 = .ok (.aload_n 0, 1) := by decide +kernel
theorem dX0_forgetAll_1 : decode cX0_forgetAll 1 = .ok (.iconst 0, 1) := by decide +kernel
theorem dX0_forgetAll_2 : decode cX0_forgetAll 2 = .ok (.putfield 18, 3) := by decide +kernel
theorem dX0_forgetAll_5 : decode cX0_forgetAll 5 = .ok (.aload_n 0, 1) := by decide +kernel
theorem dX0_forgetAll_6 : decode cX0_forgetAll 6 = .ok (.iconst 0, 1) := by decide +kernel
theorem dX0_forgetAll_7 : decode cX0_forgetAll 7 = .ok (.putfield 22, 3) := by decide +kernel
theorem dX0_forgetAll_10 : decode cX0_forgetAll 10 = .ok (.return_, 1) := by decide +kernel
theorem dX0_keep_0 : decode cX0_keep 0 = .ok (.aload_n 0, 1) := by decide +kernel
theorem dX0_keep_1 : decode cX0_keep 1 = .ok (.getfield 11, 3) := by decide +kernel
theorem dX0_keep_4 : decode cX0_keep 4 = .ok (.aload_n 0, 1) := by decide +kernel
theorem dX0_keep_5 : decode cX0_keep 5 = .ok (.getfield 18, 3) := by decide +kernel
theorem dX0_keep_8 : decode cX0_keep 8 = .ok (.aaload, 1) := by decide +kernel
theorem dX0_keep_9 : decode cX0_keep 9 = .ok (.aload_n 1, 1) := by decide +kernel
theorem dX0_keep_10 : decode cX0_keep 10 = .ok (.invokevirtual 25, 3) := by decide +kernel
theorem dX0_keep_13 : decode cX0_keep 13 = .ok (.aload_n 0, 1) := by decide +kernel
theorem dX0_keep_14 : decode cX0_keep 14 = .ok (.aload_n 0, 1) := by decide +kernel
theorem dX0_keep_15 : decode cX0_keep 15 = .ok (.getfield 18, 3) := by decide +kernel
theorem dX0_keep_18 : decode cX0_keep 18 = .ok (.iconst 1, 1) := by decide +kernel
theorem dX0_keep_19 : decode cX0_keep 19 = .ok (.iadd, 1) := by decide +kernel
theorem dX0_keep_20 : decode cX0_keep 20 = .ok (.bipush 24, 2) := by decide +kernel
theorem dX0_keep_22 : decode cX0_keep 22 = .ok (.if_icmp .ge 12, 3) := by decide +kernel
theorem dX0_keep_25 : decode cX0_keep 25 = .ok (.aload_n 0, 1) := by decide +kernel
theorem dX0_keep_26 : decode cX0_keep 26 = .ok (.getfield 18, 3) := by decide +kernel
theorem dX0_keep_29 : decode cX0_keep 29 = .ok (.iconst 1, 1) := by decide +kernel
theorem dX0_keep_30 : decode cX0_keep 30 = .ok (.iadd, 1) := by decide +kernel
theorem dX0_keep_31 : decode cX0_keep 31 = .ok (.goto 4, 3) := by decide +kernel
theorem dX0_keep_34 : decode cX0_keep 34 = .ok (.iconst 0, 1) := by decide +kernel
theorem dX0_keep_35 : decode cX0_keep 35 = .ok (.putfield 18, 3) := by decide +kernel
theorem dX0_keep_38 : decode cX0_keep 38 = .ok (.aload_n 0, 1) := by decide +kernel
theorem dX0_keep_39 : decode cX0_keep 39 = .ok (.aload_n 0, 1) := by decide +kernel
theorem dX0_keep_40 : decode cX0_keep 40 = .ok (.getfield 22, 3) := by decide +kernel
theorem dX0_keep_43 : decode cX0_keep 43 = .ok (.iconst 1, 1) := by decide +kernel
theorem dX0_keep_44 : decode cX0_keep 44 = .ok (.iadd, 1) := by decide +kernel
theorem dX0_keep_45 : decode cX0_keep 45 = .ok (.bipush 24, 2) := by decide +kernel
theorem dX0_keep_47 : decode cX0_keep 47 = .ok (.invokestatic 29, 3) := by decide +kernel
theorem dX0_keep_50 : decode cX0_keep 50 = .ok (.putfield 22, 3) := by decide +kernel
theorem dX0_keep_53 : decode cX0_keep 53 = .ok (.return_, 1) := by decide +kernel
theorem dX0_takeBack_0 : decode cX0_takeBack 0 = .ok (.aload_n 0, 1) := by decide +kernel
theorem dX0_takeBack_1 : decode cX0_takeBack 1 = .ok (.aload_n 0, 1) := by decide +kernel
theorem dX0_takeBack_2 : decode cX0_takeBack 2 = .ok (.getfield 18, 3) := by decide +kernel
theorem dX0_takeBack_5 : decode cX0_takeBack 5 = .ok (.ifCond .le 12, 3) := by decide +kernel
theorem dX0_takeBack_8 : decode cX0_takeBack 8 = .ok (.aload_n 0, 1) := by decide +kernel
theorem dX0_takeBack_9 : decode cX0_takeBack 9 = .ok (.getfield 18, 3) := by decide +kernel
theorem dX0_takeBack_12 : decode cX0_takeBack 12 = .ok (.iconst 1, 1) := by decide +kernel
theorem dX0_takeBack_13 : decode cX0_takeBack 13 = .ok (.isub, 1) := by decide +kernel
theorem dX0_takeBack_14 : decode cX0_takeBack 14 = .ok (.goto 5, 3) := by decide +kernel
theorem dX0_takeBack_17 : decode cX0_takeBack 17 = .ok (.bipush 23, 2) := by decide +kernel
theorem dX0_takeBack_19 : decode cX0_takeBack 19 = .ok (.putfield 18, 3) := by decide +kernel
theorem dX0_takeBack_22 : decode cX0_takeBack 22 = .ok (.aload_n 0, 1) := by decide +kernel
theorem dX0_takeBack_23 : decode cX0_takeBack 23 = .ok (.dup, 1) := by decide +kernel
theorem dX0_takeBack_24 : decode cX0_takeBack 24 = .ok (.getfield 22, 3) := by decide +kernel
theorem dX0_takeBack_27 : decode cX0_takeBack 27 = .ok (.iconst 1, 1) := by decide +kernel
theorem dX0_takeBack_28 : decode cX0_takeBack 28 = .ok (.isub, 1) := by decide +kernel
theorem dX0_takeBack_29 : decode cX0_takeBack 29 = .ok (.putfield 22, 3) := by decide +kernel
theorem dX0_takeBack_32 : decode cX0_takeBack 32 = .ok (.aload_n 1, 1) := by decide +kernel
theorem dX0_takeBack_33 : decode cX0_takeBack 33 = .ok (.aload_n 0, 1) := by decide +kernel
theorem dX0_takeBack_34 : decode cX0_takeBack 34 = .ok (.getfield 11, 3) := by decide +kernel
theorem dX0_takeBack_37 : decode cX0_takeBack 37 = .ok (.aload_n 0, 1) := by decide +kernel
theorem dX0_takeBack_38 : decode cX0_takeBack 38 = .ok (.getfield 18, 3) := by decide +kernel
theorem dX0_takeBack_41 : decode cX0_takeBack 41 = .ok (.aaload, 1) := by decide +kernel
theorem dX0_takeBack_42 : decode cX0_takeBack 42 = .ok (.invokevirtual 25, 3) := by decide +kernel
theorem dX0_takeBack_45 : decode cX0_takeBack 45 = .ok (.return_, 1) := by decide +kernel
def putI (la v : Int32) : Int32 := if la = 0 then v.toInt8.toInt32 else if la = nI 1 then v.toInt16.toInt32 else v
def rngI (i n : Int32) (le : Int32) : Int32 := if i < 0 then nI 0 else if n < 0 then nI 0 else if le - n < i then nI 0 else nI 1
section R1
variable (G : GG) (z : Nat) (σ : AH) (a : Nat) (it : Nat → Int32) (la le : Int32)
theorem c_isMissing : Ct G yX3_isMissing cX3_isMissing 1 (some .boolean) 1 0 0 z (rw' σ a it la le) [.ref a] (some (.int (if la = -1 then nI 1 else nI 0))) z (rw' σ a it la le) := by
  refine Ct.ofJ RX3 rfl [some (.ref a)] rfl (by decide) Nat.le.refl ?_
  refine j_aload_n dX3_isMissing_0 rfl rfl ?_
  refine j_getf dX3_isMissing_1 3 1 rfl (Nat.le_of_ble_eq_true rfl) fl_X3_15 in_3 (by first | exact rw_o | exact rw_i) rfl ?_
  refine j_iconst (-1) dX3_isMissing_4 rfl ?_
  refine j_icmp_ne 12 dX3_isMissing_5 (by decide) (fun b5 => ?_) (fun b5 => ?_)
  · refine j_iconst (nI 0) dX3_isMissing_12 rfl ?_
    exact j_zret .boolean rfl rfl dX3_isMissing_13 (by first | rw [if_pos b5] | rw [if_neg b5]) rfl (Nat.le_of_ble_eq_true rfl) (Nat.le_of_ble_eq_true rfl)
  · refine j_iconst (nI 1) dX3_isMissing_8 rfl ?_
    refine j_goto 13 dX3_isMissing_9 (by decide) ?_
    exact j_zret .boolean rfl rfl dX3_isMissing_13 (by first | rw [if_pos b5] | rw [if_neg b5]) rfl (Nat.le_of_ble_eq_true rfl) (Nat.le_of_ble_eq_true rfl)
theorem c_vanish : Ct G yX3_vanish cX3_vanish 1 none 1 0 0 z (rw' σ a it la le) [.ref a] none z (rw' σ a it (-1) (nI 0)) := by
  refine Ct.ofJ RX3 rfl [some (.ref a)] rfl (by decide) Nat.le.refl ?_
  refine j_aload_n dX3_vanish_0 rfl rfl ?_
  refine j_iconst (-1) dX3_vanish_1 rfl ?_
  refine j_putf dX3_vanish_2 3 1 rfl (Nat.le_of_ble_eq_true rfl) fl_X3_15 in_3 tyX3 tyX3_ok nmX3 rfl rfl (by first | exact rw_o | exact rw_i) (Nat.le_of_ble_eq_true rfl) _ (by first | exact rws_o | exact rws_i) ?_
  refine j_aload_n dX3_vanish_5 rfl rfl ?_
  refine j_iconst (nI 0) dX3_vanish_6 rfl ?_
  refine j_putf dX3_vanish_7 3 2 rfl (Nat.le_of_ble_eq_true rfl) fl_X3_19 in_3 tyX3 tyX3_ok nmX3 rfl rfl (by first | exact rw_o | exact rw_i) (Nat.le_of_ble_eq_true rfl) _ (by first | exact rws_o | exact rws_i) ?_
  exact j_vret rfl dX3_vanish_10 rfl (Nat.le_of_ble_eq_true rfl) (Nat.le_of_ble_eq_true rfl)
theorem c_begin {m : Nat} (x : Int32) (hm : m ≤ 40) : Ct G yX3_begin cX3_begin 4 none 1 0 0 z (rw' σ a it la le) [.ref a, .int x, .int (nI m)] none z (rw' σ a (fil (nI 0) it m) x (nI m)) := by
  refine Ct.ofJ RX3 rfl [some (.ref a), some (.int x), some (.int (nI m)), none] rfl (by decide) (by simp [Value.category]) ?_
  refine j_aload_n dX3_begin_0 rfl rfl ?_
  refine j_iload_n dX3_begin_1 rfl rfl ?_
  refine j_putf dX3_begin_2 3 1 rfl (Nat.le_of_ble_eq_true rfl) fl_X3_15 in_3 tyX3 tyX3_ok nmX3 rfl rfl (by first | exact rw_o | exact rw_i) (Nat.le_of_ble_eq_true rfl) _ (by first | exact rws_o | exact rws_i) ?_
  refine j_aload_n dX3_begin_5 rfl rfl ?_
  refine j_iload_n dX3_begin_6 rfl rfl ?_
  refine j_putf dX3_begin_7 3 2 rfl (Nat.le_of_ble_eq_true rfl) fl_X3_19 in_3 tyX3 tyX3_ok nmX3 rfl rfl (by first | exact rw_o | exact rw_i) (Nat.le_of_ble_eq_true rfl) _ (by first | exact rws_o | exact rws_i) ?_
  refine j_iconst (nI 0) dX3_begin_10 rfl ?_
  refine j_istore_n dX3_begin_11 rfl (Nat.le_of_ble_eq_true rfl) rfl ?_
  skip
  suffices H : ∀ (ki i : Nat), i ≤ m → m < i + ki → J G RX3 cX3_begin 4 none (TQ G 1 0 0 none z (rw' σ a (fil (nI 0) it m) x (nI m))) z (rw' σ a (fil (nI 0) it i) x (nI m)) 0 0 12 [some (.ref a), some (.int x), some (.int (nI m)), some (.int (nI i))] [] from H (m + 1) 0 (by omega) (by omega)
  intro ki
  induction ki with
  | zero => intro i h1i h2i; exact absurd h2i (by omega)
  | succ ki ih =>
    intro i h1i h2i
    refine j_iload_n dX3_begin_12 rfl rfl ?_
    refine j_iload_n dX3_begin_13 rfl rfl ?_
    refine j_icmp_geN 30 dX3_begin_14 (by decide) (by omega) (by omega) (fun b14 => ?_) (fun b14 => ?_)
    · obtain rfl : i = m := by omega
      exact j_vret rfl dX3_begin_30 rfl (Nat.le_of_ble_eq_true rfl) (Nat.le_of_ble_eq_true rfl)
    · refine j_aload_n dX3_begin_17 rfl rfl ?_
      refine j_getf dX3_begin_18 3 0 rfl (Nat.le_of_ble_eq_true rfl) fl_X3_9 in_3 (by first | exact rw_o | exact rw_i) rfl ?_
      refine j_iload_n dX3_begin_21 rfl rfl ?_
      refine j_iconst (nI 0) dX3_begin_22 rfl ?_
      refine j_iast dX3_begin_23 (by first | exact rw_o | exact rw_i) rfl (by omega) (by decide) _ (by first | exact rws_o | exact rws_i) ?_
      first | refine j_iincN dX3_begin_24 rfl (Nat.le_of_ble_eq_true rfl) rfl ?_ | refine j_iinc _ dX3_begin_24 rfl rfl (Nat.le_of_ble_eq_true rfl) rfl ?_
      refine j_goto 12 dX3_begin_27 (by decide) ?_
      exact ih (i + 1) (by omega) (by omega)
theorem c_hasRange (i n : Int32) : Ct G yX3_hasRange cX3_hasRange 3 (some .boolean) 1 0 0 z (rw' σ a it la le) [.ref a, .int i, .int n] (some (.int (rngI i n le))) z (rw' σ a it la le) := by
  refine Ct.ofJ RX3 rfl [some (.ref a), some (.int i), some (.int n)] rfl (by decide) Nat.le.refl ?_
  refine j_iload_n dX3_hasRange_0 rfl rfl ?_
  refine j_if_lt 22 dX3_hasRange_1 (by decide) (fun b1 => ?_) (fun b1 => ?_)
  · refine j_iconst (nI 0) dX3_hasRange_22 rfl ?_
    exact j_zret .boolean rfl rfl dX3_hasRange_23 (by unfold rngI; first | rw [if_pos b1] | rw [if_neg b1, if_pos b5] | rw [if_neg b1, if_neg b5, if_pos b15] | rw [if_neg b1, if_neg b5, if_neg b15]) rfl (Nat.le_of_ble_eq_true rfl) (Nat.le_of_ble_eq_true rfl)
  · refine j_iload_n dX3_hasRange_4 rfl rfl ?_
    refine j_if_lt 22 dX3_hasRange_5 (by decide) (fun b5 => ?_) (fun b5 => ?_)
    · refine j_iconst (nI 0) dX3_hasRange_22 rfl ?_
      exact j_zret .boolean rfl rfl dX3_hasRange_23 (by unfold rngI; first | rw [if_pos b1] | rw [if_neg b1, if_pos b5] | rw [if_neg b1, if_neg b5, if_pos b15] | rw [if_neg b1, if_neg b5, if_neg b15]) rfl (Nat.le_of_ble_eq_true rfl) (Nat.le_of_ble_eq_true rfl)
    · refine j_iload_n dX3_hasRange_8 rfl rfl ?_
      refine j_aload_n dX3_hasRange_9 rfl rfl ?_
      refine j_getf dX3_hasRange_10 3 2 rfl (Nat.le_of_ble_eq_true rfl) fl_X3_19 in_3 (by first | exact rw_o | exact rw_i) rfl ?_
      refine j_iload_n dX3_hasRange_13 rfl rfl ?_
      refine j_isub dX3_hasRange_14 ?_
      refine j_icmp_gt 22 dX3_hasRange_15 (by decide) (fun b15 => ?_) (fun b15 => ?_)
      · refine j_iconst (nI 0) dX3_hasRange_22 rfl ?_
        exact j_zret .boolean rfl rfl dX3_hasRange_23 (by unfold rngI; first | rw [if_pos b1] | rw [if_neg b1, if_pos b5] | rw [if_neg b1, if_neg b5, if_pos b15] | rw [if_neg b1, if_neg b5, if_neg b15]) rfl (Nat.le_of_ble_eq_true rfl) (Nat.le_of_ble_eq_true rfl)
      · refine j_iconst (nI 1) dX3_hasRange_18 rfl ?_
        refine j_goto 23 dX3_hasRange_19 (by decide) ?_
        exact j_zret .boolean rfl rfl dX3_hasRange_23 (by unfold rngI; first | rw [if_pos b1] | rw [if_neg b1, if_pos b5] | rw [if_neg b1, if_neg b5, if_pos b15] | rw [if_neg b1, if_neg b5, if_neg b15]) rfl (Nat.le_of_ble_eq_true rfl) (Nat.le_of_ble_eq_true rfl)
theorem c_put {k : Nat} (v : Int32) (hk : k < 40) : Ct G yX3_put cX3_put 3 (some .int) 1 0 0 z (rw' σ a it la le) [.ref a, .int (nI k), .int v] (some (.int (putI la v))) z (rw' σ a (upd it k (putI la v)) la le) := by
  refine Ct.ofJ RX3 rfl [some (.ref a), some (.int (nI k)), some (.int v)] rfl (by decide) Nat.le.refl ?_
  refine j_aload_n dX3_put_0 rfl rfl ?_
  refine j_getf dX3_put_1 3 1 rfl (Nat.le_of_ble_eq_true rfl) fl_X3_15 in_3 (by first | exact rw_o | exact rw_i) rfl ?_
  refine j_if_ne 18 dX3_put_4 (by decide) (fun b4 => ?_) (fun b4 => ?_)
  · refine j_aload_n dX3_put_18 rfl rfl ?_
    refine j_getf dX3_put_19 3 1 rfl (Nat.le_of_ble_eq_true rfl) fl_X3_15 in_3 (by first | exact rw_o | exact rw_i) rfl ?_
    refine j_iconst (nI 1) dX3_put_22 rfl ?_
    refine j_icmp_ne 37 dX3_put_23 (by decide) (fun b23 => ?_) (fun b23 => ?_)
    · refine j_aload_n dX3_put_37 rfl rfl ?_
      refine j_getf dX3_put_38 3 0 rfl (Nat.le_of_ble_eq_true rfl) fl_X3_9 in_3 (by first | exact rw_o | exact rw_i) rfl ?_
      refine j_iload_n dX3_put_41 rfl rfl ?_
      refine j_iload_n dX3_put_42 rfl rfl ?_
      refine j_iast dX3_put_43 (by first | exact rw_o | exact rw_i) rfl (by omega) (by decide) _ (by first | exact rws_o | exact rws_i) ?_
      refine j_aload_n dX3_put_44 rfl rfl ?_
      refine j_getf dX3_put_45 3 0 rfl (Nat.le_of_ble_eq_true rfl) fl_X3_9 in_3 (by first | exact rw_o | exact rw_i) rfl ?_
      refine j_iload_n dX3_put_48 rfl rfl ?_
      refine j_iald dX3_put_49 (by first | exact rw_o | exact rw_i) rfl (by omega) (by decide) ?_
      exact j_iret rfl dX3_put_50 (by rw [pk_us]; unfold putI; first | rw [if_pos b4] | rw [if_neg b4, if_pos b23] | rw [if_neg b4, if_neg b23]) (by unfold putI; first | rw [if_pos b4] | rw [if_neg b4, if_pos b23] | rw [if_neg b4, if_neg b23]) (Nat.le_of_ble_eq_true rfl) (Nat.le_of_ble_eq_true rfl)
    · refine j_aload_n dX3_put_26 rfl rfl ?_
      refine j_getf dX3_put_27 3 0 rfl (Nat.le_of_ble_eq_true rfl) fl_X3_9 in_3 (by first | exact rw_o | exact rw_i) rfl ?_
      refine j_iload_n dX3_put_30 rfl rfl ?_
      refine j_iload_n dX3_put_31 rfl rfl ?_
      refine j_i2s dX3_put_32 ?_
      refine j_iast dX3_put_33 (by first | exact rw_o | exact rw_i) rfl (by omega) (by decide) _ (by first | exact rws_o | exact rws_i) ?_
      refine j_goto 44 dX3_put_34 (by decide) ?_
      refine j_aload_n dX3_put_44 rfl rfl ?_
      refine j_getf dX3_put_45 3 0 rfl (Nat.le_of_ble_eq_true rfl) fl_X3_9 in_3 (by first | exact rw_o | exact rw_i) rfl ?_
      refine j_iload_n dX3_put_48 rfl rfl ?_
      refine j_iald dX3_put_49 (by first | exact rw_o | exact rw_i) rfl (by omega) (by decide) ?_
      exact j_iret rfl dX3_put_50 (by rw [pk_us]; unfold putI; first | rw [if_pos b4] | rw [if_neg b4, if_pos b23] | rw [if_neg b4, if_neg b23]) (by unfold putI; first | rw [if_pos b4] | rw [if_neg b4, if_pos b23] | rw [if_neg b4, if_neg b23]) (Nat.le_of_ble_eq_true rfl) (Nat.le_of_ble_eq_true rfl)
  · refine j_aload_n dX3_put_7 rfl rfl ?_
    refine j_getf dX3_put_8 3 0 rfl (Nat.le_of_ble_eq_true rfl) fl_X3_9 in_3 (by first | exact rw_o | exact rw_i) rfl ?_
    refine j_iload_n dX3_put_11 rfl rfl ?_
    refine j_iload_n dX3_put_12 rfl rfl ?_
    refine j_i2b dX3_put_13 ?_
    refine j_iast dX3_put_14 (by first | exact rw_o | exact rw_i) rfl (by omega) (by decide) _ (by first | exact rws_o | exact rws_i) ?_
    refine j_goto 44 dX3_put_15 (by decide) ?_
    refine j_aload_n dX3_put_44 rfl rfl ?_
    refine j_getf dX3_put_45 3 0 rfl (Nat.le_of_ble_eq_true rfl) fl_X3_9 in_3 (by first | exact rw_o | exact rw_i) rfl ?_
    refine j_iload_n dX3_put_48 rfl rfl ?_
    refine j_iald dX3_put_49 (by first | exact rw_o | exact rw_i) rfl (by omega) (by decide) ?_
    exact j_iret rfl dX3_put_50 (by rw [pk_us]; unfold putI; first | rw [if_pos b4] | rw [if_neg b4, if_pos b23] | rw [if_neg b4, if_neg b23]) (by unfold putI; first | rw [if_pos b4] | rw [if_neg b4, if_pos b23] | rw [if_neg b4, if_neg b23]) (Nat.le_of_ble_eq_true rfl) (Nat.le_of_ble_eq_true rfl)
end R1
section A1
variable (G : GG) (z : Nat) (σ : AH)
/-- the acts: the object at 35, the row of towns at 36, the towns from 37 on -/
theorem c_forgetAll {nx kp : Int32} (h : σ 35 = some (.inr (.inr (0, [.ref 36, .int nx, .int kp])))) : Ct G yX0_forgetAll cX0_forgetAll 1 none 1 0 0 z σ [.ref 35] none z (ups σ 35 (.inr (.inr (0, [.ref 36, .int (nI 0), .int (nI 0)])))) := by
  refine Ct.ofJ RX0 rfl [some (.ref 35)] rfl (by decide) Nat.le.refl ?_
  refine j_aload_n dX0_forgetAll_0 rfl rfl ?_
  refine j_iconst (nI 0) dX0_forgetAll_1 rfl ?_
  refine j_putf dX0_forgetAll_2 0 1 rfl (Nat.le_of_ble_eq_true rfl) fl_X0_18 in_0 tyX0 tyX0_ok nmX0 rfl rfl (by first | exact h | (unfold ups; rfl)) (Nat.le_of_ble_eq_true rfl) _ rfl ?_
  refine j_aload_n dX0_forgetAll_5 rfl rfl ?_
  refine j_iconst (nI 0) dX0_forgetAll_6 rfl ?_
  refine j_putf dX0_forgetAll_7 0 2 rfl (Nat.le_of_ble_eq_true rfl) fl_X0_22 in_0 tyX0 tyX0_ok nmX0 rfl rfl (by first | exact h | (unfold ups; rfl)) (Nat.le_of_ble_eq_true rfl) _ rfl ?_
  exact j_vret rfl dX0_forgetAll_10 (by funext k; unfold ups; split <;> rfl) (Nat.le_of_ble_eq_true rfl) (Nat.le_of_ble_eq_true rfl)
end A1

/-! THE MODEL's helpers: nets, looks, kinds, payments, what it remembers -/
/-- how a front may be painted -/
def okP (d : TS) (p : Nat) : Prop := sP d p = -1 ∨ ∃ v : Nat, v ≤ 9 ∧ sP d p = nI v
theorem neg_add' (x y : Int32) : -x + y = y - x := by rw [Int32.add_comm, Int32.sub_eq_add_neg]
/-- one is to pay: the town after b of his lenders -/
def stT (d : TS) (p b : Nat) : TS := wC (wD d (stl p (sC d) (sD d) b).2.1) (stl p (sC d) (sD d) b).1
theorem stT_0 (d : TS) (p : Nat) : stT d p 0 = d := rfl
theorem stT_s {d : TS} {p b : Nat} : stT d p (b + 1) = wD (wC (wC (stT d p b) (upd (sC (stT d p b)) p (sC (stT d p b) p - minI (sC (stT d p b) p) (sD (stT d p b) (p * 7 + b))))) (upd (upd (sC (stT d p b)) p (sC (stT d p b) p - minI (sC (stT d p b) p) (sD (stT d p b) (p * 7 + b)))) b (upd (sC (stT d p b)) p (sC (stT d p b) p - minI (sC (stT d p b) p) (sD (stT d p b) (p * 7 + b))) b + minI (sC (stT d p b) p) (sD (stT d p b) (p * 7 + b))))) (upd (sD (stT d p b)) (p * 7 + b) (sD (stT d p b) (p * 7 + b) - minI (sC (stT d p b) p) (sD (stT d p b) (p * 7 + b)))) := by
  rw [Int32.sub_eq_add_neg (sD (stT d p b) (p * 7 + b))]
  rfl
def remW (kp : Nat) (ws T : Nat → Int32) : Nat → Int32 := if kp = 24 then va_cpy T (va_cpy ws ws 96 0 2208) 0 2208 96 else va_cpy T ws 0 (96 * kp) 96
section M2
variable {G : GG} {z : Nat} {σ : AH} {a0 a1 a2 a3 a4 a5 a6 a7 a8 a9 a10 a11 : Nat → Int32} {i0 i1 i2 i3 i4 i5 i6 i7 i8 i9 i10 i11 : Int32} {d : TS} {p : Nat}
theorem m_netOf (hN : sN d ≤ 7) (hp : p < sN d) : Ct G yX6_netOf cX6_netOf 4 (some .int) 2 0 0 z (mH σ (encT d) a1 a2 a3 a4 a5 a6 a7 a8 a9 a10 a11 i0 i1 i2 i3 i4 i5 i6 i7 i8 i9 i10 i11) [.ref 171, .int (nI p)] (some (.int (tsum (sD d) (sN d) p - dsum (sD d) (sN d) p))) z (mH σ (encT d) a1 a2 a3 a4 a5 a6 a7 a8 a9 a10 a11 i0 i1 i2 i3 i4 i5 i6 i7 i8 i9 i10 i11) := by
  refine Ct.ofJ RX6 rfl [some (.ref 171), some (.int (nI p)), none, none] rfl (by decide) (by simp [Value.category]) ?_
  refine j_aload_n dX6_netOf_0 rfl rfl ?_
  refine j_getf dX6_netOf_1 6 0 rfl (Nat.le_of_ble_eq_true rfl) fl_X6_7 in_6 mH_o rfl ?_
  refine j_iload_n dX6_netOf_4 rfl rfl ?_
  refine j_callS (m_owedIn mH_a0 hN hp) dX6_netOf_5 rfl ms_X6_151 ⟨(Nat.le_of_ble_eq_true rfl), (Nat.le_of_ble_eq_true rfl)⟩ ⟨(Nat.le_of_ble_eq_true rfl), (Nat.le_of_ble_eq_true rfl)⟩ (Nat.le_of_ble_eq_true rfl) ?_
  refine j_ineg dX6_netOf_8 ?_
  refine j_istore_n dX6_netOf_9 rfl (Nat.le_of_ble_eq_true rfl) rfl ?_
  refine j_iconst (nI 0) dX6_netOf_10 rfl ?_
  refine j_istore_n dX6_netOf_11 rfl (Nat.le_of_ble_eq_true rfl) rfl ?_
  refine Eq.mp (congrArg (fun q => J G RX6 cX6_netOf 4 (some .int) _ z _ 0 0 12 [some (.ref 171), some (.int (nI p)), some (.int q), some (.int (nI 0))] []) (show -dsum (sD d) (sN d) p + nI 0 = -dsum (sD d) (sN d) p from Int32.add_zero _)) ?_
  suffices H : ∀ (ki i : Nat), i ≤ 7 → 7 < i + ki → J G RX6 cX6_netOf 4 (some .int) (TQ G 2 0 0 (some (.int (tsum (sD d) (sN d) p - dsum (sD d) (sN d) p))) z (mH σ (encT d) a1 a2 a3 a4 a5 a6 a7 a8 a9 a10 a11 i0 i1 i2 i3 i4 i5 i6 i7 i8 i9 i10 i11)) z (mH σ (encT d) a1 a2 a3 a4 a5 a6 a7 a8 a9 a10 a11 i0 i1 i2 i3 i4 i5 i6 i7 i8 i9 i10 i11) 0 0 12 [some (.ref 171), some (.int (nI p)), some (.int (-dsum (sD d) (sN d) p + sumR (fun o => encT d (40 + 7 * o + p)) i)), some (.int (nI i))] [] from H (7 + 1) 0 (by omega) (by omega)
  intro ki
  induction ki with
  | zero => intro i h1i h2i; exact absurd h2i (by omega)
  | succ ki ih =>
    intro i h1i h2i
    refine j_iload_n dX6_netOf_12 rfl rfl ?_
    refine j_bipush (nI 7) dX6_netOf_13 rfl ?_
    refine j_icmp_geN 41 dX6_netOf_15 (by decide) (by omega) (by omega) (fun b15 => ?_) (fun b15 => ?_)
    · obtain rfl : i = 7 := by omega
      refine j_iload_n dX6_netOf_41 rfl rfl ?_
      exact j_iret rfl dX6_netOf_42 (by rw [sum7t hN hp, neg_add']) rfl (Nat.le_of_ble_eq_true rfl) (Nat.le_of_ble_eq_true rfl)
    · refine j_iload_n dX6_netOf_18 rfl rfl ?_
      refine j_aload_n dX6_netOf_19 rfl rfl ?_
      refine j_getf dX6_netOf_20 6 0 rfl (Nat.le_of_ble_eq_true rfl) fl_X6_7 in_6 mH_o rfl ?_
      refine j_bipush (nI 40) dX6_netOf_23 rfl ?_
      refine j_bipush (nI 7) dX6_netOf_25 rfl ?_
      refine j_iload_n dX6_netOf_27 rfl rfl ?_
      first | refine j_imulN dX6_netOf_28 ?_ | refine j_imul dX6_netOf_28 ?_
      first | refine j_iaddN dX6_netOf_29 ?_ | refine j_iadd dX6_netOf_29 ?_
      refine j_iload_n dX6_netOf_30 rfl rfl ?_
      first | refine j_iaddN dX6_netOf_31 ?_ | refine j_iadd dX6_netOf_31 ?_
      refine j_iald dX6_netOf_32 mH_a0 rfl (by omega) (by decide) ?_
      refine j_iadd dX6_netOf_33 ?_
      refine j_top (-dsum (sD d) (sN d) p + sumR (fun o => encT d (40 + 7 * o + p)) (i + 1)) (Int32.add_assoc _ _ _) ?_
      refine j_istore_n dX6_netOf_34 rfl (Nat.le_of_ble_eq_true rfl) rfl ?_
      first | refine j_iincN dX6_netOf_35 rfl (Nat.le_of_ble_eq_true rfl) rfl ?_ | refine j_iinc _ dX6_netOf_35 rfl rfl (Nat.le_of_ble_eq_true rfl) rfl ?_
      refine j_goto 12 dX6_netOf_38 (by decide) ?_
      exact ih (i + 1) (by omega) (by omega)
theorem m_looks (hN : sN d ≤ 7) (hp : p < sN d) (hu : 1 ≤ sU d) (hu2 : sU d ≤ 20) (hP : okP d p) : Ct G yX6_looks cX6_looks 2 (some .int) 3 0 0 z (mH σ (encT d) a1 a2 a3 a4 a5 a6 a7 a8 a9 a10 a11 i0 i1 i2 i3 i4 i5 i6 i7 i8 i9 i10 i11) [.ref 171, .int (nI p)] (some (.int (lks (sP d) (sD d) (sN d) (sU d) p))) z (mH σ (encT d) a1 a2 a3 a4 a5 a6 a7 a8 a9 a10 a11 i0 i1 i2 i3 i4 i5 i6 i7 i8 i9 i10 i11) := by
  refine Ct.ofJ RX6 rfl [some (.ref 171), some (.int (nI p))] rfl (by decide) (by simp [Value.category]) ?_
  rcases hP with hP | ⟨v, hv, hP⟩
  · have e : encT d (25 + p) = nI 10 := by rw [enc_p hN hp, if_pos hP]
    refine j_aload_n dX6_looks_0 rfl rfl ?_
    refine j_getf dX6_looks_1 6 0 rfl (Nat.le_of_ble_eq_true rfl) fl_X6_7 in_6 mH_o rfl ?_
    refine j_bipush (nI 25) dX6_looks_4 rfl ?_
    refine j_iload_n dX6_looks_6 rfl rfl ?_
    first | refine j_iaddN dX6_looks_7 ?_ | refine j_iadd dX6_looks_7 ?_
    refine j_iald dX6_looks_8 mH_a0 rfl (by omega) (by decide) ?_
    refine j_top (nI 10) e ?_
    refine j_bipush (nI 10) dX6_looks_9 rfl ?_
    refine j_icmp_geN 26 dX6_looks_11 (by decide) (by omega) (by omega) (fun b11 => ?_) (fun b11 => by exfalso; omega)
    refine j_aload_n dX6_looks_26 rfl rfl ?_
    refine j_getf dX6_looks_27 6 0 rfl (Nat.le_of_ble_eq_true rfl) fl_X6_7 in_6 mH_o rfl ?_
    refine j_iload_n dX6_looks_30 rfl rfl ?_
    refine j_callS (m_shadeIn mH_a0 hN hp hu hu2) dX6_looks_31 rfl ms_X6_155 ⟨(Nat.le_of_ble_eq_true rfl), (Nat.le_of_ble_eq_true rfl)⟩ ⟨(Nat.le_of_ble_eq_true rfl), (Nat.le_of_ble_eq_true rfl)⟩ (Nat.le_of_ble_eq_true rfl) ?_
    exact j_iret rfl dX6_looks_34 (by unfold lks; rw [if_pos hP]) rfl (Nat.le_of_ble_eq_true rfl) (Nat.le_of_ble_eq_true rfl)
  · have e : encT d (25 + p) = nI v := by rw [enc_p hN hp, if_neg (by rw [hP]; intro q; exact absurd (congrArg Int32.toInt q) (by rw [nI_toInt (by omega)]; show ¬ (v : Int) = -1; omega)), hP]
    refine j_aload_n dX6_looks_0 rfl rfl ?_
    refine j_getf dX6_looks_1 6 0 rfl (Nat.le_of_ble_eq_true rfl) fl_X6_7 in_6 mH_o rfl ?_
    refine j_bipush (nI 25) dX6_looks_4 rfl ?_
    refine j_iload_n dX6_looks_6 rfl rfl ?_
    first | refine j_iaddN dX6_looks_7 ?_ | refine j_iadd dX6_looks_7 ?_
    refine j_iald dX6_looks_8 mH_a0 rfl (by omega) (by decide) ?_
    refine j_top (nI v) e ?_
    refine j_bipush (nI 10) dX6_looks_9 rfl ?_
    refine j_icmp_geN 26 dX6_looks_11 (by decide) (by omega) (by omega) (fun b11 => by exfalso; omega) (fun b11 => ?_)
    refine j_aload_n dX6_looks_14 rfl rfl ?_
    refine j_getf dX6_looks_15 6 0 rfl (Nat.le_of_ble_eq_true rfl) fl_X6_7 in_6 mH_o rfl ?_
    refine j_bipush (nI 25) dX6_looks_18 rfl ?_
    refine j_iload_n dX6_looks_20 rfl rfl ?_
    first | refine j_iaddN dX6_looks_21 ?_ | refine j_iadd dX6_looks_21 ?_
    refine j_iald dX6_looks_22 mH_a0 rfl (by omega) (by decide) ?_
    refine j_top (nI v) e ?_
    refine j_goto 34 dX6_looks_23 (by decide) ?_
    exact j_iret rfl dX6_looks_34 (by unfold lks; rw [if_neg (by rw [hP]; intro q; exact absurd (congrArg Int32.toInt q) (by rw [nI_toInt (by omega)]; show ¬ (v : Int) = -1; omega)), hP]) rfl (Nat.le_of_ble_eq_true rfl) (Nat.le_of_ble_eq_true rfl)
theorem m_kindOf (hN : sN d ≤ 7) (hp : p < sN d) (hu : 1 ≤ sU d) (hu2 : sU d ≤ 20) (hz : ¬ 0 < dsum (sD d) (sN d) p → dsum (sD d) (sN d) p = 0) : Ct G yX6_kindOf cX6_kindOf 2 (some .int) 3 0 0 z (mH σ (encT d) a1 a2 a3 a4 a5 a6 a7 a8 a9 a10 a11 i0 i1 i2 i3 i4 i5 i6 i7 i8 i9 i10 i11) [.ref 171, .int (nI p)] (some (.int (kindI (sD d) (sF d) (sN d) (sU d) p))) z (mH σ (encT d) a1 a2 a3 a4 a5 a6 a7 a8 a9 a10 a11 i0 i1 i2 i3 i4 i5 i6 i7 i8 i9 i10 i11) := by
  refine Ct.ofJ RX6 rfl [some (.ref 171), some (.int (nI p))] rfl (by decide) (by simp [Value.category]) ?_
  refine j_aload_n dX6_kindOf_0 rfl rfl ?_
  refine j_getf dX6_kindOf_1 6 0 rfl (Nat.le_of_ble_eq_true rfl) fl_X6_7 in_6 mH_o rfl ?_
  refine j_bipush (nI 32) dX6_kindOf_4 rfl ?_
  refine j_iload_n dX6_kindOf_6 rfl rfl ?_
  first | refine j_iaddN dX6_kindOf_7 ?_ | refine j_iadd dX6_kindOf_7 ?_
  refine j_iald dX6_kindOf_8 mH_a0 rfl (by omega) (by decide) ?_
  refine j_top (bitI (sF d) (nI p)) (enc_f hN hp) ?_
  refine j_iconst (nI 1) dX6_kindOf_9 rfl ?_
  refine j_icmp_ne 15 dX6_kindOf_10 (by decide) (fun b10 => ?_) (fun b10 => ?_)
  · refine j_aload_n dX6_kindOf_15 rfl rfl ?_
    refine j_getf dX6_kindOf_16 6 0 rfl (Nat.le_of_ble_eq_true rfl) fl_X6_7 in_6 mH_o rfl ?_
    refine j_iload_n dX6_kindOf_19 rfl rfl ?_
    refine j_callS (m_owedIn mH_a0 hN hp) dX6_kindOf_20 rfl ms_X6_151 ⟨(Nat.le_of_ble_eq_true rfl), (Nat.le_of_ble_eq_true rfl)⟩ ⟨(Nat.le_of_ble_eq_true rfl), (Nat.le_of_ble_eq_true rfl)⟩ (Nat.le_of_ble_eq_true rfl) ?_
    refine j_if_le 45 dX6_kindOf_23 (by decide) (fun b23 => ?_) (fun b23 => ?_)
    · have hz0 := hz (Int32.not_lt.mpr b23)
      refine j_aload_n dX6_kindOf_45 rfl rfl ?_
      refine j_iload_n dX6_kindOf_46 rfl rfl ?_
      refine j_callV (m_netOf hN hp) dX6_kindOf_47 rfl mv_X6_186 mH_o rfl ⟨(Nat.le_of_ble_eq_true rfl), (Nat.le_of_ble_eq_true rfl)⟩ ⟨(Nat.le_of_ble_eq_true rfl), (Nat.le_of_ble_eq_true rfl)⟩ (Nat.le_of_ble_eq_true rfl) ?_
      refine j_top (tsum (sD d) (sN d) p) (by rw [hz0]; exact Int32.sub_zero _) ?_
      refine j_if_le 57 dX6_kindOf_50 (by decide) (fun b50 => ?_) (fun b50 => ?_)
      · refine j_iconst (nI 4) dX6_kindOf_57 rfl ?_
        exact j_iret rfl dX6_kindOf_58 (by unfold kindI; rw [if_neg b10, if_neg (Int32.not_lt.mpr b23)]; first | rw [if_pos (Int32.not_le.mp b50)] | rw [if_neg (Int32.not_lt.mpr b50)] | done) rfl (Nat.le_of_ble_eq_true rfl) (Nat.le_of_ble_eq_true rfl)
      · refine j_iconst (nI 5) dX6_kindOf_53 rfl ?_
        refine j_goto 58 dX6_kindOf_54 (by decide) ?_
        exact j_iret rfl dX6_kindOf_58 (by unfold kindI; rw [if_neg b10, if_neg (Int32.not_lt.mpr b23)]; first | rw [if_pos (Int32.not_le.mp b50)] | rw [if_neg (Int32.not_lt.mpr b50)] | done) rfl (Nat.le_of_ble_eq_true rfl) (Nat.le_of_ble_eq_true rfl)
    · refine j_aload_n dX6_kindOf_26 rfl rfl ?_
      refine j_getf dX6_kindOf_27 6 0 rfl (Nat.le_of_ble_eq_true rfl) fl_X6_7 in_6 mH_o rfl ?_
      refine j_iload_n dX6_kindOf_30 rfl rfl ?_
      refine j_callS (m_shadeIn mH_a0 hN hp hu hu2) dX6_kindOf_31 rfl ms_X6_155 ⟨(Nat.le_of_ble_eq_true rfl), (Nat.le_of_ble_eq_true rfl)⟩ ⟨(Nat.le_of_ble_eq_true rfl), (Nat.le_of_ble_eq_true rfl)⟩ (Nat.le_of_ble_eq_true rfl) ?_
      refine j_bipush (nI 7) dX6_kindOf_34 rfl ?_
      refine j_icmp_lt 43 dX6_kindOf_36 (by decide) (fun b36 => ?_) (fun b36 => ?_)
      · refine j_iconst (nI 1) dX6_kindOf_43 rfl ?_
        exact j_iret rfl dX6_kindOf_44 (by unfold kindI; rw [if_neg b10, if_pos (Int32.not_le.mp b23)]; first | rw [if_pos b36] | rw [if_neg b36] | done) rfl (Nat.le_of_ble_eq_true rfl) (Nat.le_of_ble_eq_true rfl)
      · refine j_iconst (nI 2) dX6_kindOf_39 rfl ?_
        refine j_goto 44 dX6_kindOf_40 (by decide) ?_
        exact j_iret rfl dX6_kindOf_44 (by unfold kindI; rw [if_neg b10, if_pos (Int32.not_le.mp b23)]; first | rw [if_pos b36] | rw [if_neg b36] | done) rfl (Nat.le_of_ble_eq_true rfl) (Nat.le_of_ble_eq_true rfl)
  · refine j_iconst (nI 3) dX6_kindOf_13 rfl ?_
    exact j_iret rfl dX6_kindOf_14 (by unfold kindI; rw [if_pos b10]) rfl (Nat.le_of_ble_eq_true rfl) (Nat.le_of_ble_eq_true rfl)
theorem m_pays {t : Nat} (h : σ t = some (.inl (0, 96, encT d))) (hN : sN d ≤ 7) (hp : p < sN d) : Ct G yX6_pays cX6_pays 6 (some .int) 1 0 0 z σ [.ref t, .int (nI p)] (some (.int (stl p (sC d) (sD d) (sN d)).2.2)) z (ups σ t (.inl (0, 96, encT (stT d p (sN d))))) := by
  refine Ct.ofJ RX6 rfl [some (.ref t), some (.int (nI p)), none, none, none, none] rfl (by decide) (by simp [Value.category]) ?_
  refine j_iconst (nI 0) dX6_pays_0 rfl ?_
  refine j_istore_n dX6_pays_1 rfl (Nat.le_of_ble_eq_true rfl) rfl ?_
  refine j_iconst (nI 0) dX6_pays_2 rfl ?_
  refine j_istore_n dX6_pays_3 rfl (Nat.le_of_ble_eq_true rfl) rfl ?_
  suffices H : ∀ (kk b : Nat) (o1 o2 : Option Value), b ≤ sN d → sN d < b + kk → J G RX6 cX6_pays 6 (some .int) (TQ G 1 0 0 (some (.int (stl p (sC d) (sD d) (sN d)).2.2)) z (ups σ t (.inl (0, 96, encT (stT d p (sN d)))))) z (ups σ t (.inl (0, 96, encT (stT d p b)))) 0 0 4 [some (.ref t), some (.int (nI p)), some (.int (stl p (sC d) (sD d) b).2.2), some (.int (nI b)), o1, o2] [] from (by have := H (sN d + 1) 0 none none (by omega) (by omega); rw [stT_0, ups_self h] at this; exact this)
  intro kk
  induction kk with
  | zero => intro b o1 o2 h1 h2; exact absurd h2 (by omega)
  | succ kk ih =>
    intro b o1 o2 h1 h2
    by_cases hb : b < sN d
    · have eD : encT (stT d p b) (40 + 7 * p + b) = sD (stT d p b) (p * 7 + b) := enc_d (d := stT d p b) hN hp hb
      have eC : encT (stT d p b) (4 + p) = sC (stT d p b) p := enc_c (d := stT d p b) hN hp
      have hm : minI (sC (stT d p b) p) (sD (stT d p b) (p * 7 + b)) = if sD (stT d p b) (p * 7 + b) < sC (stT d p b) p then sD (stT d p b) (p * 7 + b) else sC (stT d p b) p := rfl
      suffices HH : ∀ (v : Int32), v = minI (sC (stT d p b) p) (sD (stT d p b) (p * 7 + b)) → J G RX6 cX6_pays 6 (some .int) (TQ G 1 0 0 (some (.int (stl p (sC d) (sD d) (sN d)).2.2)) z (ups σ t (.inl (0, 96, encT (stT d p (sN d)))))) z (ups σ t (.inl (0, 96, encT (stT d p b)))) 0 0 44 [some (.ref t), some (.int (nI p)), some (.int (stl p (sC d) (sD d) b).2.2), some (.int (nI b)), some (.int (sD (stT d p b) (p * 7 + b))), o2] [.int v] by
        refine j_iload_n dX6_pays_4 rfl rfl ?_
        refine j_aload_n dX6_pays_5 rfl rfl ?_
        refine j_iconst (nI 2) dX6_pays_6 rfl ?_
        refine j_iald dX6_pays_7 ups_a (k := 2) rfl (by omega) (by decide) ?_
        refine j_top (nI (sN d)) rfl ?_
        refine j_icmp_geN 93 dX6_pays_8 (by decide) (by omega) (by omega) (fun b8 => by exfalso; omega) (fun b8 => ?_)
        refine j_aload_n dX6_pays_11 rfl rfl ?_
        refine j_bipush (nI 40) dX6_pays_12 rfl ?_
        refine j_bipush (nI 7) dX6_pays_14 rfl ?_
        refine j_iload_n dX6_pays_16 rfl rfl ?_
        first | refine j_imulN dX6_pays_17 ?_ | refine j_imul dX6_pays_17 ?_
        first | refine j_iaddN dX6_pays_18 ?_ | refine j_iadd dX6_pays_18 ?_
        refine j_iload_n dX6_pays_19 rfl rfl ?_
        first | refine j_iaddN dX6_pays_20 ?_ | refine j_iadd dX6_pays_20 ?_
        refine j_iald dX6_pays_21 ups_a rfl (by omega) (by decide) ?_
        refine j_top (sD (stT d p b) (p * 7 + b)) eD ?_
        refine j_istore dX6_pays_22 (Nat.le_of_ble_eq_true rfl) rfl ?_
        refine j_iload dX6_pays_24 rfl ?_
        refine j_aload_n dX6_pays_26 rfl rfl ?_
        refine j_iconst (nI 4) dX6_pays_27 rfl ?_
        refine j_iload_n dX6_pays_28 rfl rfl ?_
        first | refine j_iaddN dX6_pays_29 ?_ | refine j_iadd dX6_pays_29 ?_
        refine j_iald dX6_pays_30 ups_a rfl (by omega) (by decide) ?_
        refine j_top (sC (stT d p b) p) eC ?_
        refine j_icmp_ge 39 dX6_pays_31 (by decide) (fun b31 => ?_) (fun b31 => ?_)
        · refine j_aload_n dX6_pays_39 rfl rfl ?_
          refine j_iconst (nI 4) dX6_pays_40 rfl ?_
          refine j_iload_n dX6_pays_41 rfl rfl ?_
          first | refine j_iaddN dX6_pays_42 ?_ | refine j_iadd dX6_pays_42 ?_
          refine j_iald dX6_pays_43 ups_a rfl (by omega) (by decide) ?_
          refine j_top (sC (stT d p b) p) eC ?_
          exact HH _ (by rw [hm]; first | rw [if_pos (Int32.not_le.mp b31)] | rw [if_neg (Int32.not_lt.mpr b31)] | done)
        · refine j_iload dX6_pays_34 rfl ?_
          refine j_goto 44 dX6_pays_36 (by decide) ?_
          exact HH _ (by rw [hm]; first | rw [if_pos (Int32.not_le.mp b31)] | rw [if_neg (Int32.not_lt.mpr b31)] | done)
      intro v hv
      refine j_istore dX6_pays_44 (Nat.le_of_ble_eq_true rfl) rfl ?_
      refine j_aload_n dX6_pays_46 rfl rfl ?_
      refine j_iconst (nI 4) dX6_pays_47 rfl ?_
      refine j_iload_n dX6_pays_48 rfl rfl ?_
      first | refine j_iaddN dX6_pays_49 ?_ | refine j_iadd dX6_pays_49 ?_
      refine j_dup2 dX6_pays_50 rfl rfl ?_
      refine j_iald dX6_pays_51 ups_a rfl (by omega) (by decide) ?_
      refine j_top (sC (stT d p b) p) eC ?_
      refine j_iload dX6_pays_52 rfl ?_
      refine j_isub dX6_pays_54 ?_
      refine j_iast dX6_pays_55 ups_a rfl (by omega) (by decide) _ (ups_ups.trans (by rw [enc_wC (d := stT d p b) hN hp])) ?_
      refine j_aload_n dX6_pays_56 rfl rfl ?_
      refine j_iconst (nI 4) dX6_pays_57 rfl ?_
      refine j_iload_n dX6_pays_58 rfl rfl ?_
      first | refine j_iaddN dX6_pays_59 ?_ | refine j_iadd dX6_pays_59 ?_
      refine j_dup2 dX6_pays_60 rfl rfl ?_
      refine j_iald dX6_pays_61 ups_a rfl (by omega) (by decide) ?_
      refine j_top _ (enc_c (d := wC (stT d p b) _) hN hb) ?_
      refine j_iload dX6_pays_62 rfl ?_
      refine j_iadd dX6_pays_64 ?_
      refine j_iast dX6_pays_65 ups_a rfl (by omega) (by decide) _ (ups_ups.trans (by rw [enc_wC (d := wC (stT d p b) _) hN hb])) ?_
      refine j_aload_n dX6_pays_66 rfl rfl ?_
      refine j_bipush (nI 40) dX6_pays_67 rfl ?_
      refine j_bipush (nI 7) dX6_pays_69 rfl ?_
      refine j_iload_n dX6_pays_71 rfl rfl ?_
      first | refine j_imulN dX6_pays_72 ?_ | refine j_imul dX6_pays_72 ?_
      first | refine j_iaddN dX6_pays_73 ?_ | refine j_iadd dX6_pays_73 ?_
      refine j_iload_n dX6_pays_74 rfl rfl ?_
      first | refine j_iaddN dX6_pays_75 ?_ | refine j_iadd dX6_pays_75 ?_
      refine j_dup2 dX6_pays_76 rfl rfl ?_
      refine j_iald dX6_pays_77 ups_a rfl (by omega) (by decide) ?_
      refine j_top (sD (stT d p b) (p * 7 + b)) (enc_d (d := wC (stT d p b) _) hN hp hb) ?_
      refine j_iload dX6_pays_78 rfl ?_
      refine j_isub dX6_pays_80 ?_
      refine j_iast dX6_pays_81 ups_a rfl (by omega) (by decide) _ (show _ = ups σ t (.inl (0, 96, encT (stT d p (b + 1)))) from ups_ups.trans (by rw [enc_wD (d := wC (stT d p b) _) hN hp hb, stT_s, hv])) ?_
      refine j_iload_n dX6_pays_82 rfl rfl ?_
      refine j_iload dX6_pays_83 rfl ?_
      refine j_iadd dX6_pays_85 ?_
      refine j_top (stl p (sC d) (sD d) (b + 1)).2.2 (by rw [hv]; rfl) ?_
      refine j_istore_n dX6_pays_86 rfl (Nat.le_of_ble_eq_true rfl) rfl ?_
      first | refine j_iincN dX6_pays_87 rfl (Nat.le_of_ble_eq_true rfl) rfl ?_ | refine j_iinc _ dX6_pays_87 rfl rfl (Nat.le_of_ble_eq_true rfl) rfl ?_
      refine j_goto 4 dX6_pays_90 (by decide) ?_
      exact ih (b + 1) _ _ (by omega) (by omega)
    · obtain rfl : b = sN d := by omega
      refine j_iload_n dX6_pays_4 rfl rfl ?_
      refine j_aload_n dX6_pays_5 rfl rfl ?_
      refine j_iconst (nI 2) dX6_pays_6 rfl ?_
      refine j_iald dX6_pays_7 ups_a (k := 2) rfl (by omega) (by decide) ?_
      refine j_top (nI (sN d)) rfl ?_
      refine j_icmp_geN 93 dX6_pays_8 (by decide) (by omega) (by omega) (fun b8 => ?_) (fun b8 => by exfalso; omega)
      refine j_iload_n dX6_pays_93 rfl rfl ?_
      exact j_iret rfl dX6_pays_94 rfl rfl (Nat.le_of_ble_eq_true rfl) (Nat.le_of_ble_eq_true rfl)
end M2
section M2
variable {G : GG} {z : Nat} {σ : AH} {a0 a1 a2 a3 a4 a5 a6 a7 a8 a9 a10 a11 : Nat → Int32} {i0 i1 i2 i3 i4 i5 i6 i7 i8 i9 i10 i11 : Int32} {d : TS} {p : Nat}
theorem m_remembers {kp : Nat} (hk : kp ≤ 24) : Ct G yX6_remembers cX6_remembers 2 none 1 0 0 z (mH σ a0 a1 a2 a3 a4 a5 a6 a7 a8 a9 a10 a11 (nI kp) i1 i2 i3 i4 i5 i6 i7 i8 i9 i10 i11) [.ref 171] none z (mH σ a0 a1 a2 a3 (remW kp a4 a0) a5 a6 a7 a8 a9 a10 a11 (nI (min (kp + 1) 24)) i1 i2 i3 i4 i5 i6 i7 i8 i9 i10 i11) := by
  refine Ct.ofJ RX6 rfl [some (.ref 171), none] rfl (by decide) (by simp [Value.category]) ?_
  have key : ∀ (w : Nat → Int32) (q : Nat), q ≤ 23 → remW kp a4 a0 = va_cpy a0 w 0 (96 * q) 96 → min (kp + 1) 24 = q + 1 → ∀ o : Option Value, J G RX6 cX6_remembers 2 none (TQ G 1 0 0 none z (mH σ a0 a1 a2 a3 (remW kp a4 a0) a5 a6 a7 a8 a9 a10 a11 (nI (min (kp + 1) 24)) i1 i2 i3 i4 i5 i6 i7 i8 i9 i10 i11)) z (mH σ a0 a1 a2 a3 w a5 a6 a7 a8 a9 a10 a11 (nI q) i1 i2 i3 i4 i5 i6 i7 i8 i9 i10 i11) 0 0 49 [some (.ref 171), o] [] := by
    intro w q hq hw hm o
    rw [hw, hm]
    refine j_iconst (nI 0) dX6_remembers_49 rfl ?_
    refine j_istore_n dX6_remembers_50 rfl (Nat.le_of_ble_eq_true rfl) rfl ?_
    suffices H : ∀ (kk i : Nat), i ≤ 96 → 96 < i + kk → J G RX6 cX6_remembers 2 none (TQ G 1 0 0 none z (mH σ a0 a1 a2 a3 (va_cpy a0 w 0 (96 * q) 96) a5 a6 a7 a8 a9 a10 a11 (nI (q + 1)) i1 i2 i3 i4 i5 i6 i7 i8 i9 i10 i11)) z (mH σ a0 a1 a2 a3 (va_cpy a0 w 0 (96 * q) i) a5 a6 a7 a8 a9 a10 a11 (nI q) i1 i2 i3 i4 i5 i6 i7 i8 i9 i10 i11) 0 0 51 [some (.ref 171), some (.int (nI i))] [] from (by have := H 97 0 (by omega) (by omega); rw [cpy_0] at this; exact this)
    intro kk
    induction kk with
    | zero => intro i h1 h2; exact absurd h2 (by omega)
    | succ kk ih =>
      intro i h1 h2
      by_cases hi : i < 96
      · refine j_iload_n dX6_remembers_51 rfl rfl ?_
        refine j_bipush (nI 96) dX6_remembers_52 rfl ?_
        refine j_icmp_geN 83 dX6_remembers_54 (by decide) (by omega) (by omega) (fun b54 => by exfalso; omega) (fun b54 => ?_)
        refine j_aload_n dX6_remembers_57 rfl rfl ?_
        refine j_getf dX6_remembers_58 6 4 rfl (Nat.le_of_ble_eq_true rfl) fl_X6_23 in_6 mH_o rfl ?_
        refine j_bipush (nI 96) dX6_remembers_61 rfl ?_
        refine j_aload_n dX6_remembers_63 rfl rfl ?_
        refine j_getf dX6_remembers_64 6 5 rfl (Nat.le_of_ble_eq_true rfl) fl_X6_145 in_6 mH_o rfl ?_
        first | refine j_imulN dX6_remembers_67 ?_ | refine j_imul dX6_remembers_67 ?_
        refine j_iload_n dX6_remembers_68 rfl rfl ?_
        first | refine j_iaddN dX6_remembers_69 ?_ | refine j_iadd dX6_remembers_69 ?_
        refine j_aload_n dX6_remembers_70 rfl rfl ?_
        refine j_getf dX6_remembers_71 6 0 rfl (Nat.le_of_ble_eq_true rfl) fl_X6_7 in_6 mH_o rfl ?_
        refine j_iload_n dX6_remembers_74 rfl rfl ?_
        refine j_iald dX6_remembers_75 mH_a0 rfl (by omega) (by decide) ?_
        refine j_iast dX6_remembers_76 mH_a4 rfl (by omega) (by decide) _ (show _ = (mH σ a0 a1 a2 a3 (va_cpy a0 w 0 (96 * q) (i + 1)) a5 a6 a7 a8 a9 a10 a11 (nI q) i1 i2 i3 i4 i5 i6 i7 i8 i9 i10 i11) by rw [← cpy_s, Nat.zero_add]; exact mH_s4) ?_
        first | refine j_iincN dX6_remembers_77 rfl (Nat.le_of_ble_eq_true rfl) rfl ?_ | refine j_iinc _ dX6_remembers_77 rfl rfl (Nat.le_of_ble_eq_true rfl) rfl ?_
        refine j_goto 51 dX6_remembers_80 (by decide) ?_
        exact ih (i + 1) (by omega) (by omega)
      · obtain rfl : i = 96 := by omega
        refine j_iload_n dX6_remembers_51 rfl rfl ?_
        refine j_bipush (nI 96) dX6_remembers_52 rfl ?_
        refine j_icmp_geN 83 dX6_remembers_54 (by decide) (by omega) (by omega) (fun b54 => ?_) (fun b54 => by exfalso; omega)
        refine j_aload_n dX6_remembers_83 rfl rfl ?_
        refine j_dup dX6_remembers_84 rfl ?_
        refine j_getf dX6_remembers_85 6 5 rfl (Nat.le_of_ble_eq_true rfl) fl_X6_145 in_6 mH_o rfl ?_
        refine j_iconst (nI 1) dX6_remembers_88 rfl ?_
        first | refine j_iaddN dX6_remembers_89 ?_ | refine j_iadd dX6_remembers_89 ?_
        refine j_putf dX6_remembers_90 6 5 rfl (Nat.le_of_ble_eq_true rfl) fl_X6_145 in_6 tyX6 tyX6_ok nmX6 rfl rfl mH_o (Nat.le_of_ble_eq_true rfl) _ mH_p0 ?_
        exact j_vret rfl dX6_remembers_93 rfl (Nat.le_of_ble_eq_true rfl) (Nat.le_of_ble_eq_true rfl)
  by_cases h24 : kp = 24
  · subst h24
    refine j_aload_n dX6_remembers_0 rfl rfl ?_
    refine j_getf dX6_remembers_1 6 5 rfl (Nat.le_of_ble_eq_true rfl) fl_X6_145 in_6 mH_o rfl ?_
    refine j_bipush (nI 24) dX6_remembers_4 rfl ?_
    refine j_icmp_neN 49 dX6_remembers_6 (by decide) (by omega) (by omega) (fun b6 => by exact absurd rfl b6) (fun b6 => ?_)
    refine j_iconst (nI 0) dX6_remembers_9 rfl ?_
    refine j_istore_n dX6_remembers_10 rfl (Nat.le_of_ble_eq_true rfl) rfl ?_
    suffices H : ∀ (kk i : Nat), i ≤ 2208 → 2208 < i + kk → J G RX6 cX6_remembers 2 none (TQ G 1 0 0 none z (mH σ a0 a1 a2 a3 (remW 24 a4 a0) a5 a6 a7 a8 a9 a10 a11 (nI (min (24 + 1) 24)) i1 i2 i3 i4 i5 i6 i7 i8 i9 i10 i11)) z (mH σ a0 a1 a2 a3 (va_cpy a4 a4 96 0 i) a5 a6 a7 a8 a9 a10 a11 (nI 24) i1 i2 i3 i4 i5 i6 i7 i8 i9 i10 i11) 0 0 11 [some (.ref 171), some (.int (nI i))] [] from (by have := H 2209 0 (by omega) (by omega); rw [cpy_0] at this; exact this)
    intro kk
    induction kk with
    | zero => intro i h1 h2; exact absurd h2 (by omega)
    | succ kk ih =>
      intro i h1 h2
      by_cases hi : i < 2208
      · refine j_iload_n dX6_remembers_11 rfl rfl ?_
        refine j_sipush (nI 2208) dX6_remembers_12 rfl ?_
        refine j_icmp_geN 39 dX6_remembers_15 (by decide) (by omega) (by omega) (fun b15 => by exfalso; omega) (fun b15 => ?_)
        refine j_aload_n dX6_remembers_18 rfl rfl ?_
        refine j_getf dX6_remembers_19 6 4 rfl (Nat.le_of_ble_eq_true rfl) fl_X6_23 in_6 mH_o rfl ?_
        refine j_iload_n dX6_remembers_22 rfl rfl ?_
        refine j_aload_n dX6_remembers_23 rfl rfl ?_
        refine j_getf dX6_remembers_24 6 4 rfl (Nat.le_of_ble_eq_true rfl) fl_X6_23 in_6 mH_o rfl ?_
        refine j_iload_n dX6_remembers_27 rfl rfl ?_
        refine j_bipush (nI 96) dX6_remembers_28 rfl ?_
        first | refine j_iaddN dX6_remembers_30 ?_ | refine j_iadd dX6_remembers_30 ?_
        refine j_iald dX6_remembers_31 mH_a4 rfl (by omega) (by decide) ?_
        refine j_top (a4 (96 + i)) (by rw [pk_cpy_out (by omega), Nat.add_comm]) ?_
        refine j_iast dX6_remembers_32 mH_a4 rfl (by omega) (by decide) _ (show _ = (mH σ a0 a1 a2 a3 (va_cpy a4 a4 96 0 (i + 1)) a5 a6 a7 a8 a9 a10 a11 (nI 24) i1 i2 i3 i4 i5 i6 i7 i8 i9 i10 i11) by rw [← cpy_s, Nat.zero_add]; exact mH_s4) ?_
        first | refine j_iincN dX6_remembers_33 rfl (Nat.le_of_ble_eq_true rfl) rfl ?_ | refine j_iinc _ dX6_remembers_33 rfl rfl (Nat.le_of_ble_eq_true rfl) rfl ?_
        refine j_goto 11 dX6_remembers_36 (by decide) ?_
        exact ih (i + 1) (by omega) (by omega)
      · obtain rfl : i = 2208 := by omega
        refine j_iload_n dX6_remembers_11 rfl rfl ?_
        refine j_sipush (nI 2208) dX6_remembers_12 rfl ?_
        refine j_icmp_geN 39 dX6_remembers_15 (by decide) (by omega) (by omega) (fun b15 => ?_) (fun b15 => by exfalso; omega)
        refine j_aload_n dX6_remembers_39 rfl rfl ?_
        refine j_dup dX6_remembers_40 rfl ?_
        refine j_getf dX6_remembers_41 6 5 rfl (Nat.le_of_ble_eq_true rfl) fl_X6_145 in_6 mH_o rfl ?_
        refine j_iconst (nI 1) dX6_remembers_44 rfl ?_
        refine j_isubN dX6_remembers_45 (by omega) ?_
        refine j_putf dX6_remembers_46 6 5 rfl (Nat.le_of_ble_eq_true rfl) fl_X6_145 in_6 tyX6 tyX6_ok nmX6 rfl rfl mH_o (Nat.le_of_ble_eq_true rfl) _ mH_p0 ?_
        exact key _ 23 (by omega) rfl rfl _
  · refine j_aload_n dX6_remembers_0 rfl rfl ?_
    refine j_getf dX6_remembers_1 6 5 rfl (Nat.le_of_ble_eq_true rfl) fl_X6_145 in_6 mH_o rfl ?_
    refine j_bipush (nI 24) dX6_remembers_4 rfl ?_
    refine j_icmp_neN 49 dX6_remembers_6 (by decide) (by omega) (by omega) (fun b6 => ?_) (fun b6 => by exact absurd b6 h24)
    exact key _ kp (by omega) (if_neg h24) (by omega) _
end M2

/-! THE MODEL's calls: feed -/
theorem dX6_feed_0 : decode cX6_feed 0 = .ok (.iload_n 3, 1) := by decide +kernel
theorem dX6_feed_1 : decode cX6_feed 1 = .ok (.i2l, 1) := by decide +kernel
theorem dX6_feed_2 : decode cX6_feed 2 = .ok (.lconst 1, 1) := by decide +kernel
theorem dX6_feed_3 : decode cX6_feed 3 = .ok (.ldc2_w 72, 3) := by decide +kernel
theorem dX6_feed_6 : decode cX6_feed 6 = .ok (.invokestatic 54, 3) := by decide +kernel
theorem dX6_feed_9 : decode cX6_feed 9 = .ok (.ifCond .ne 6, 3) := by decide +kernel
theorem dX6_feed_12 : decode cX6_feed 12 = .ok (.ldc 64, 2) := by decide +kernel
theorem dX6_feed_14 : decode cX6_feed 14 = .ok (.ireturn, 1) := by decide +kernel
theorem dX6_feed_15 : decode cX6_feed 15 = .ok (.aload_n 0, 1) := by decide +kernel
theorem dX6_feed_16 : decode cX6_feed 16 = .ok (.getfield 74, 3) := by decide +kernel
theorem dX6_feed_19 : decode cX6_feed 19 = .ok (.iload_n 3, 1) := by decide +kernel
theorem dX6_feed_20 : decode cX6_feed 20 = .ok (.iadd, 1) := by decide +kernel
theorem dX6_feed_21 : decode cX6_feed 21 = .ok (.sipush 400, 3) := by decide +kernel
theorem dX6_feed_24 : decode cX6_feed 24 = .ok (.if_icmp .le 6, 3) := by decide +kernel
theorem dX6_feed_27 : decode cX6_feed 27 = .ok (.ldc 77, 2) := by decide +kernel
theorem dX6_feed_29 : decode cX6_feed 29 = .ok (.ireturn, 1) := by decide +kernel
theorem dX6_feed_30 : decode cX6_feed 30 = .ok (.iload_n 3, 1) := by decide +kernel
theorem dX6_feed_31 : decode cX6_feed 31 = .ok (.iconst 1, 1) := by decide +kernel
theorem dX6_feed_32 : decode cX6_feed 32 = .ok (.isub, 1) := by decide +kernel
theorem dX6_feed_33 : decode cX6_feed 33 = .ok (.istore 4, 2) := by decide +kernel
theorem dX6_feed_35 : decode cX6_feed 35 = .ok (.iload 4, 2) := by decide +kernel
theorem dX6_feed_37 : decode cX6_feed 37 = .ok (.ifCond .lt 40, 3) := by decide +kernel
theorem dX6_feed_40 : decode cX6_feed 40 = .ok (.aload_n 0, 1) := by decide +kernel
theorem dX6_feed_41 : decode cX6_feed 41 = .ok (.getfield 35, 3) := by decide +kernel
theorem dX6_feed_44 : decode cX6_feed 44 = .ok (.aload_n 0, 1) := by decide +kernel
theorem dX6_feed_45 : decode cX6_feed 45 = .ok (.getfield 74, 3) := by decide +kernel
theorem dX6_feed_48 : decode cX6_feed 48 = .ok (.lload_n 1, 1) := by decide +kernel
theorem dX6_feed_49 : decode cX6_feed 49 = .ok (.bipush 8, 2) := by decide +kernel
theorem dX6_feed_51 : decode cX6_feed 51 = .ok (.iload 4, 2) := by decide +kernel
theorem dX6_feed_53 : decode cX6_feed 53 = .ok (.imul, 1) := by decide +kernel
theorem dX6_feed_54 : decode cX6_feed 54 = .ok (.lshr, 1) := by decide +kernel
theorem dX6_feed_55 : decode cX6_feed 55 = .ok (.ldc2_w 78, 3) := by decide +kernel
theorem dX6_feed_58 : decode cX6_feed 58 = .ok (.land, 1) := by decide +kernel
theorem dX6_feed_59 : decode cX6_feed 59 = .ok (.l2i, 1) := by decide +kernel
theorem dX6_feed_60 : decode cX6_feed 60 = .ok (.iastore, 1) := by decide +kernel
theorem dX6_feed_61 : decode cX6_feed 61 = .ok (.aload_n 0, 1) := by decide +kernel
theorem dX6_feed_62 : decode cX6_feed 62 = .ok (.dup, 1) := by decide +kernel
theorem dX6_feed_63 : decode cX6_feed 63 = .ok (.getfield 74, 3) := by decide +kernel
theorem dX6_feed_66 : decode cX6_feed 66 = .ok (.iconst 1, 1) := by decide +kernel
theorem dX6_feed_67 : decode cX6_feed 67 = .ok (.iadd, 1) := by decide +kernel
theorem dX6_feed_68 : decode cX6_feed 68 = .ok (.putfield 74, 3) := by decide +kernel
theorem dX6_feed_71 : decode cX6_feed 71 = .ok (.iinc 4 (-1), 3) := by decide +kernel
theorem dX6_feed_74 : decode cX6_feed 74 = .ok (.goto (-39), 3) := by decide +kernel
theorem dX6_feed_77 : decode cX6_feed 77 = .ok (.aload_n 0, 1) := by decide +kernel
theorem dX6_feed_78 : decode cX6_feed 78 = .ok (.getfield 74, 3) := by decide +kernel
theorem dX6_feed_81 : decode cX6_feed 81 = .ok (.ireturn, 1) := by decide +kernel
/-- a byte as the model keeps it -/
def ubI (x : Int32) : Int32 := x &&& 255
def fdU (w : Int64) (l : Nat) : Int32 := ((w >>> ((nI (8 * l)).toInt64 &&& 63)) &&& 255).toInt32
def fdM (w : Int64) (m len : Nat) (tp : Nat → Int32) : Nat → Nat → Int32
  | 0 => tp
  | k + 1 => upd (fdM w m len tp k) (len + k) (fdU w (m - 1 - k))
theorem b255 : ∀ i, i < 64 → (255#64).getLsbD i = decide (i < 8) := by decide
theorem b255s : ∀ i, i < 32 → (255#32).getLsbD i = decide (i < 8) := by decide
theorem ub_get (x : Int32) {i : Nat} (hi : i < 32) : (ubI x).toBitVec.getLsbD i = (x.toBitVec.getLsbD i && decide (i < 8)) := by
  show (x.toBitVec &&& (255 : Int32).toBitVec).getLsbD i = _
  rw [BitVec.getLsbD_and, show (255 : Int32).toBitVec = 255#32 from rfl, b255s i hi]
theorem by_get (x : Int32) {i : Nat} (hi : i < 8) : x.toInt8.toInt32.toBitVec.getLsbD i = x.toBitVec.getLsbD i := by
  show ((x.toBitVec.signExtend 8).signExtend 32).getLsbD i = _
  rw [BitVec.getLsbD_signExtend, BitVec.getLsbD_signExtend]
  have h1 : decide (i < 32) = true := by simp; omega
  have h2 : decide (i < 8) = true := by simp [hi]
  rw [h1, h2, if_pos hi, if_pos (show i < 32 by omega)]
  simp
theorem ub_by (x : Int32) : ubI x.toInt8.toInt32 = ubI x := by
  apply i32_ext
  intro i hi
  rw [ub_get _ hi, ub_get _ hi]
  by_cases h : i < 8
  · rw [by_get x h]
  · have : decide (i < 8) = false := by simp [h]
    rw [this, Bool.and_false, Bool.and_false]
theorem fdU_ub (w : Int64) (l : Nat) : fdU w l = ubI (fdB w l).toInt8.toInt32 := by
  rw [ub_by]
  unfold fdB
  rw [ub_by]
  unfold fdU
  apply i32_ext
  intro i hi
  rw [ub_get _ hi]
  show ((w >>> ((nI (8 * l)).toInt64 &&& 63)).toBitVec &&& (255 : Int64).toBitVec |>.signExtend 32).getLsbD i = (((w >>> ((nI (8 * l)).toInt64 &&& 63)).toBitVec.signExtend 32).getLsbD i && decide (i < 8))
  rw [BitVec.getLsbD_signExtend, BitVec.getLsbD_signExtend, if_pos (show i < 64 by omega), if_pos (show i < 64 by omega), BitVec.getLsbD_and, show (255 : Int64).toBitVec = 255#64 from rfl, b255 i (by omega)]
  cases decide (i < 32) <;> simp
theorem fdM_ub {w : Int64} {m len : Nat} {tp t8 : Nat → Int32} (h : ∀ j, t8 j = ubI (tp j)) : ∀ k j, fdM w m len t8 k j = ubI (fdT w m len tp k j)
  | 0, j => h j
  | k + 1, j => by
    show upd (fdM w m len t8 k) (len + k) (fdU w (m - 1 - k)) j = ubI (upd (fdT w m len tp k) (len + k) ((fdB w (m - 1 - k)).toInt8.toInt32) j)
    by_cases e : j = len + k
    · subst e; rw [pk_us, pk_us, fdU_ub]
    · rw [pk_un e, pk_un e]; exact fdM_ub h k j
section MF
variable {G : GG} {z : Nat} {σ : AH} {a0 a1 a2 a3 a4 a5 a6 a7 a8 a9 a10 a11 : Nat → Int32} {i0 i1 i2 i3 i4 i5 i6 i7 i8 i9 i10 i11 : Int32}
theorem m_feed_bad (w : Int64) (n : Int32) (h : n < nI 1 ∨ nI 8 < n) : Ct G yX6_feed cX6_feed 5 (some .int) 2 0 0 z (mH σ a0 a1 a2 a3 a4 a5 a6 a7 a8 a9 a10 a11 i0 i1 i2 i3 i4 i5 i6 i7 i8 i9 i10 i11) [.ref 171, .long w, .int n] (some (.int (-1000001))) z (mH σ a0 a1 a2 a3 a4 a5 a6 a7 a8 a9 a10 a11 i0 i1 i2 i3 i4 i5 i6 i7 i8 i9 i10 i11) := by
  refine Ct.ofJ RX6 rfl [some (.ref 171), some (.long w), none, some (.int n), none] rfl (by decide) (by simp [Value.category]) ?_
  refine j_iload_n dX6_feed_0 rfl rfl ?_
  refine j_i2l dX6_feed_1 ?_
  refine j_lconst (1) dX6_feed_2 rfl ?_
  refine j_ldc2 (8) dX6_feed_3 kl_X6_72 ?_
  refine j_callS (m_in3 n (nI 1) (nI 8) rfl rfl) dX6_feed_6 rfl ms_X6_54 ⟨(Nat.le_of_ble_eq_true rfl), (Nat.le_of_ble_eq_true rfl)⟩ ⟨(Nat.le_of_ble_eq_true rfl), (Nat.le_of_ble_eq_true rfl)⟩ (Nat.le_of_ble_eq_true rfl) ?_
  refine j_top (nI 0) (inI_no h) ?_
  refine j_if_ne 15 dX6_feed_9 (by decide) (fun h => absurd rfl h) (fun _ => ?_)
  refine j_ldc (-1000001) dX6_feed_12 kc_X6_64 ?_
  exact j_iret rfl dX6_feed_14 rfl rfl (Nat.le_of_ble_eq_true rfl) (Nat.le_of_ble_eq_true rfl)
theorem m_feed_full {m len : Nat} (w : Int64) (h1 : 1 ≤ m) (h2 : m ≤ 8) (hlen : len ≤ 400) (h : 400 < len + m) : Ct G yX6_feed cX6_feed 5 (some .int) 2 0 0 z (mH σ a0 a1 a2 a3 a4 a5 a6 a7 a8 a9 a10 a11 i0 i1 i2 (nI len) i4 i5 i6 i7 i8 i9 i10 i11) [.ref 171, .long w, .int (nI m)] (some (.int (-1000003))) z (mH σ a0 a1 a2 a3 a4 a5 a6 a7 a8 a9 a10 a11 i0 i1 i2 (nI len) i4 i5 i6 i7 i8 i9 i10 i11) := by
  refine Ct.ofJ RX6 rfl [some (.ref 171), some (.long w), none, some (.int (nI m)), none] rfl (by decide) (by simp [Value.category]) ?_
  refine j_iload_n dX6_feed_0 rfl rfl ?_
  refine j_i2l dX6_feed_1 ?_
  refine j_lconst (1) dX6_feed_2 rfl ?_
  refine j_ldc2 (8) dX6_feed_3 kl_X6_72 ?_
  refine j_callS (m_in3 (nI m) (nI 1) (nI 8) rfl rfl) dX6_feed_6 rfl ms_X6_54 ⟨(Nat.le_of_ble_eq_true rfl), (Nat.le_of_ble_eq_true rfl)⟩ ⟨(Nat.le_of_ble_eq_true rfl), (Nat.le_of_ble_eq_true rfl)⟩ (Nat.le_of_ble_eq_true rfl) ?_
  refine j_top (nI 1) (inI_N h1 h2 (by omega)) ?_
  refine j_if_ne 15 dX6_feed_9 (by decide) (fun _ => ?_) (fun h => absurd h (by decide))
  refine j_aload_n dX6_feed_15 rfl rfl ?_
  refine j_getf dX6_feed_16 6 12 rfl (Nat.le_of_ble_eq_true rfl) fl_X6_74 in_6 mH_o rfl ?_
  refine j_iload_n dX6_feed_19 rfl rfl ?_
  first | refine j_iaddN dX6_feed_20 ?_ | refine j_iadd dX6_feed_20 ?_
  refine j_sipush (nI 400) dX6_feed_21 rfl ?_
  refine j_icmp_leN 30 dX6_feed_24 (by decide) (by omega) (by omega) (fun b24 => by exfalso; omega) (fun b24 => ?_)
  refine j_ldc (-1000003) dX6_feed_27 kc_X6_77 ?_
  exact j_iret rfl dX6_feed_29 rfl rfl (Nat.le_of_ble_eq_true rfl) (Nat.le_of_ble_eq_true rfl)
theorem m_feed_ok {m len : Nat} (w : Int64) (h1 : 1 ≤ m) (h2 : m ≤ 8) (h : len + m ≤ 400) : Ct G yX6_feed cX6_feed 5 (some .int) 2 0 0 z (mH σ a0 a1 a2 a3 a4 a5 a6 a7 a8 a9 a10 a11 i0 i1 i2 (nI len) i4 i5 i6 i7 i8 i9 i10 i11) [.ref 171, .long w, .int (nI m)] (some (.int (nI (len + m)))) z (mH σ a0 a1 a2 a3 a4 a5 a6 a7 (fdM w m len a8 m) a9 a10 a11 i0 i1 i2 (nI (len + m)) i4 i5 i6 i7 i8 i9 i10 i11) := by
  refine Ct.ofJ RX6 rfl [some (.ref 171), some (.long w), none, some (.int (nI m)), none] rfl (by decide) (by simp [Value.category]) ?_
  refine j_iload_n dX6_feed_0 rfl rfl ?_
  refine j_i2l dX6_feed_1 ?_
  refine j_lconst (1) dX6_feed_2 rfl ?_
  refine j_ldc2 (8) dX6_feed_3 kl_X6_72 ?_
  refine j_callS (m_in3 (nI m) (nI 1) (nI 8) rfl rfl) dX6_feed_6 rfl ms_X6_54 ⟨(Nat.le_of_ble_eq_true rfl), (Nat.le_of_ble_eq_true rfl)⟩ ⟨(Nat.le_of_ble_eq_true rfl), (Nat.le_of_ble_eq_true rfl)⟩ (Nat.le_of_ble_eq_true rfl) ?_
  refine j_top (nI 1) (inI_N h1 h2 (by omega)) ?_
  refine j_if_ne 15 dX6_feed_9 (by decide) (fun _ => ?_) (fun h => absurd h (by decide))
  refine j_aload_n dX6_feed_15 rfl rfl ?_
  refine j_getf dX6_feed_16 6 12 rfl (Nat.le_of_ble_eq_true rfl) fl_X6_74 in_6 mH_o rfl ?_
  refine j_iload_n dX6_feed_19 rfl rfl ?_
  first | refine j_iaddN dX6_feed_20 ?_ | refine j_iadd dX6_feed_20 ?_
  refine j_sipush (nI 400) dX6_feed_21 rfl ?_
  refine j_icmp_leN 30 dX6_feed_24 (by decide) (by omega) (by omega) (fun b24 => ?_) (fun b24 => by exfalso; omega)
  refine j_iload_n dX6_feed_30 rfl rfl ?_
  refine j_iconst (nI 1) dX6_feed_31 rfl ?_
  refine j_isubN dX6_feed_32 (by omega) ?_
  refine j_istore dX6_feed_33 (Nat.le_of_ble_eq_true rfl) rfl ?_
  suffices H : ∀ (kk k : Nat) (x : Int32), k ≤ m → m < k + kk → (k < m ∧ x = nI (m - 1 - k)) ∨ (k = m ∧ x = -1) → J G RX6 cX6_feed 5 (some .int) (TQ G 2 0 0 (some (.int (nI (len + m)))) z (mH σ a0 a1 a2 a3 a4 a5 a6 a7 (fdM w m len a8 m) a9 a10 a11 i0 i1 i2 (nI (len + m)) i4 i5 i6 i7 i8 i9 i10 i11)) z (mH σ a0 a1 a2 a3 a4 a5 a6 a7 (fdM w m len a8 k) a9 a10 a11 i0 i1 i2 (nI (len + k)) i4 i5 i6 i7 i8 i9 i10 i11) 0 0 35 [some (.ref 171), some (.long w), none, some (.int (nI m)), some (.int x)] [] from H (m + 1) 0 _ (by omega) (by omega) (Or.inl ⟨by omega, rfl⟩)
  intro kk
  induction kk with
  | zero => intro k x h3 h4; exact absurd h4 (by omega)
  | succ kk ih =>
    intro k x h3 h4 hx
    by_cases hk : k < m
    · obtain rfl : x = nI (m - 1 - k) := hx.elim (fun q => q.2) (fun q => absurd q.1 (by omega))
      refine j_iload dX6_feed_35 rfl ?_
      refine j_if_lt 77 dX6_feed_37 (by decide) (fun b37 => by exact absurd b37 (nI_pos (by omega))) (fun b37 => ?_)
      refine j_aload_n dX6_feed_40 rfl rfl ?_
      refine j_getf dX6_feed_41 6 11 rfl (Nat.le_of_ble_eq_true rfl) fl_X6_35 in_6 mH_o rfl ?_
      refine j_aload_n dX6_feed_44 rfl rfl ?_
      refine j_getf dX6_feed_45 6 12 rfl (Nat.le_of_ble_eq_true rfl) fl_X6_74 in_6 mH_o rfl ?_
      refine j_lload_n dX6_feed_48 rfl rfl ?_
      refine j_bipush (nI 8) dX6_feed_49 rfl ?_
      refine j_iload dX6_feed_51 rfl ?_
      first | refine j_imulN dX6_feed_53 ?_ | refine j_imul dX6_feed_53 ?_
      refine j_lshr dX6_feed_54 ?_
      refine j_ldc2 (255) dX6_feed_55 kl_X6_78 ?_
      refine j_land dX6_feed_58 ?_
      refine j_l2i dX6_feed_59 ?_
      refine j_iast dX6_feed_60 mH_a8 rfl (by omega) (by decide) _ mH_s8 ?_
      refine j_aload_n dX6_feed_61 rfl rfl ?_
      refine j_dup dX6_feed_62 rfl ?_
      refine j_getf dX6_feed_63 6 12 rfl (Nat.le_of_ble_eq_true rfl) fl_X6_74 in_6 mH_o rfl ?_
      refine j_iconst (nI 1) dX6_feed_66 rfl ?_
      first | refine j_iaddN dX6_feed_67 ?_ | refine j_iadd dX6_feed_67 ?_
      refine j_putf dX6_feed_68 6 12 rfl (Nat.le_of_ble_eq_true rfl) fl_X6_74 in_6 tyX6 tyX6_ok nmX6 rfl rfl mH_o (Nat.le_of_ble_eq_true rfl) _ mH_p3 ?_
      refine j_iinc _ dX6_feed_71 rfl rfl (Nat.le_of_ble_eq_true rfl) rfl ?_
      refine j_goto 35 dX6_feed_74 (by decide) ?_
      refine ih (k + 1) _ (by omega) (by omega) ?_
      by_cases hk2 : k + 1 < m
      · refine Or.inl ⟨hk2, ?_⟩
        rw [show m - 1 - k = (m - 1 - (k + 1)) + 1 by omega, show Int32.ofInt (-1) = (-1 : Int32) from by decide]
        exact pk_m1 _
      · refine Or.inr ⟨by omega, ?_⟩
        rw [show m - 1 - k = 0 by omega]
        decide
    · obtain rfl : k = m := by omega
      obtain rfl : x = -1 := hx.elim (fun q => absurd q.1 (by omega)) (fun q => q.2)
      refine j_iload dX6_feed_35 rfl ?_
      refine j_if_lt 77 dX6_feed_37 (by decide) (fun b37 => ?_) (fun b37 => by exact absurd (by decide) b37)
      refine j_aload_n dX6_feed_77 rfl rfl ?_
      refine j_getf dX6_feed_78 6 12 rfl (Nat.le_of_ble_eq_true rfl) fl_X6_74 in_6 mH_o rfl ?_
      exact j_iret rfl dX6_feed_81 rfl rfl (Nat.le_of_ble_eq_true rfl) (Nat.le_of_ble_eq_true rfl)
end MF

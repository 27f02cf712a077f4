/-! THE CONSTRUCTOR of the model (printed by wip/tools/mkm57.py) -/
abbrev dfl6 : List Value := [.null, .null, .null, .null, .null, .int 0, .int 0, .int 0, .null, .null, .null, .null, .int 0, .int 0, .int 0, .int 0, .int 0, .int 0, .int 0, .null, .null, .int 0, .null, .int 0]
theorem df_6 (G : GG) : ∀ j, j < 24 → defaultValue (tyX6 j) = vp_V (dfl6.map (cV G)) j := by
  intro j hj
  match j, hj with
  | 0, _ => rfl
  | 1, _ => rfl
  | 2, _ => rfl
  | 3, _ => rfl
  | 4, _ => rfl
  | 5, _ => rfl
  | 6, _ => rfl
  | 7, _ => rfl
  | 8, _ => rfl
  | 9, _ => rfl
  | 10, _ => rfl
  | 11, _ => rfl
  | 12, _ => rfl
  | 13, _ => rfl
  | 14, _ => rfl
  | 15, _ => rfl
  | 16, _ => rfl
  | 17, _ => rfl
  | 18, _ => rfl
  | 19, _ => rfl
  | 20, _ => rfl
  | 21, _ => rfl
  | 22, _ => rfl
  | 23, _ => rfl
  | k + 24, hk => exact absurd hk (by omega)
def hM1 (σ : AH) : AH := ups (ups σ 172 (.inl (0, 96, fun _ => 0))) 171 (.inr (.inr (6, [.ref 172, .null, .null, .null, .null, .int 0, .int 0, .int 0, .null, .null, .null, .null, .int 0, .int 0, .int 0, .int 0, .int 0, .int 0, .int 0, .null, .null, .int 0, .null, .int 0])))
def hM2 (σ : AH) : AH := ups (ups (hM1 σ) 173 (.inl (0, 96, fun _ => 0))) 171 (.inr (.inr (6, [.ref 172, .ref 173, .null, .null, .null, .int 0, .int 0, .int 0, .null, .null, .null, .null, .int 0, .int 0, .int 0, .int 0, .int 0, .int 0, .int 0, .null, .null, .int 0, .null, .int 0])))
def hM3 (σ : AH) : AH := ups (ups (hM2 σ) 174 (.inl (0, 192, fun _ => 0))) 171 (.inr (.inr (6, [.ref 172, .ref 173, .ref 174, .null, .null, .int 0, .int 0, .int 0, .null, .null, .null, .null, .int 0, .int 0, .int 0, .int 0, .int 0, .int 0, .int 0, .null, .null, .int 0, .null, .int 0])))
def hM4 (σ : AH) : AH := ups (ups (hM3 σ) 175 (.inl (2, 2, fun _ => 0))) 171 (.inr (.inr (6, [.ref 172, .ref 173, .ref 174, .ref 175, .null, .int 0, .int 0, .int 0, .null, .null, .null, .null, .int 0, .int 0, .int 0, .int 0, .int 0, .int 0, .int 0, .null, .null, .int 0, .null, .int 0])))
def hM5 (σ : AH) : AH := ups (ups (hM4 σ) 176 (.inl (0, 2304, fun _ => 0))) 171 (.inr (.inr (6, [.ref 172, .ref 173, .ref 174, .ref 175, .ref 176, .int 0, .int 0, .int 0, .null, .null, .null, .null, .int 0, .int 0, .int 0, .int 0, .int 0, .int 0, .int 0, .null, .null, .int 0, .null, .int 0])))
def hM6 (σ : AH) : AH := ups (ups (hM5 σ) 177 (.inl (0, 8, fun _ => 0))) 171 (.inr (.inr (6, [.ref 172, .ref 173, .ref 174, .ref 175, .ref 176, .int 0, .int 0, .int 0, .ref 177, .null, .null, .null, .int 0, .int 0, .int 0, .int 0, .int 0, .int 0, .int 0, .null, .null, .int 0, .null, .int 0])))
def hM7 (σ : AH) : AH := ups (ups (hM6 σ) 178 (.inl (0, 8, fun _ => 0))) 171 (.inr (.inr (6, [.ref 172, .ref 173, .ref 174, .ref 175, .ref 176, .int 0, .int 0, .int 0, .ref 177, .ref 178, .null, .null, .int 0, .int 0, .int 0, .int 0, .int 0, .int 0, .int 0, .null, .null, .int 0, .null, .int 0])))
def hM8 (σ : AH) : AH := ups (ups (hM7 σ) 179 (.inl (0, 320, fun _ => 0))) 171 (.inr (.inr (6, [.ref 172, .ref 173, .ref 174, .ref 175, .ref 176, .int 0, .int 0, .int 0, .ref 177, .ref 178, .ref 179, .null, .int 0, .int 0, .int 0, .int 0, .int 0, .int 0, .int 0, .null, .null, .int 0, .null, .int 0])))
def hM9 (σ : AH) : AH := ups (ups (hM8 σ) 180 (.inl (0, 400, fun _ => 0))) 171 (.inr (.inr (6, [.ref 172, .ref 173, .ref 174, .ref 175, .ref 176, .int 0, .int 0, .int 0, .ref 177, .ref 178, .ref 179, .ref 180, .int 0, .int 0, .int 0, .int 0, .int 0, .int 0, .int 0, .null, .null, .int 0, .null, .int 0])))
def hM10 (σ : AH) : AH := ups (ups (hM9 σ) 181 (.inl (0, 6, fun _ => 0))) 171 (.inr (.inr (6, [.ref 172, .ref 173, .ref 174, .ref 175, .ref 176, .int 0, .int 0, .int 0, .ref 177, .ref 178, .ref 179, .ref 180, .int 0, .int 0, .int 0, .int 0, .int 0, .int 0, .int 0, .ref 181, .null, .int 0, .null, .int 0])))
def hM11 (σ : AH) : AH := ups (ups (hM10 σ) 182 (.inl (0, 7, fun _ => 0))) 171 (.inr (.inr (6, [.ref 172, .ref 173, .ref 174, .ref 175, .ref 176, .int 0, .int 0, .int 0, .ref 177, .ref 178, .ref 179, .ref 180, .int 0, .int 0, .int 0, .int 0, .int 0, .int 0, .int 0, .ref 181, .ref 182, .int 0, .null, .int 0])))
def hM12 (σ : AH) : AH := ups (ups (hM11 σ) 183 (.inl (0, 16, fun _ => 0))) 171 (.inr (.inr (6, [.ref 172, .ref 173, .ref 174, .ref 175, .ref 176, .int 0, .int 0, .int 0, .ref 177, .ref 178, .ref 179, .ref 180, .int 0, .int 0, .int 0, .int 0, .int 0, .int 0, .int 0, .ref 181, .ref 182, .int 0, .ref 183, .int 0])))
theorem hM_all (σ : AH) : hM12 σ = mH σ (fun _ => 0) (fun _ => 0) (fun _ => 0) (fun _ => 0) (fun _ => 0) (fun _ => 0) (fun _ => 0) (fun _ => 0) (fun _ => 0) (fun _ => 0) (fun _ => 0) (fun _ => 0) 0 0 0 0 0 0 0 0 0 0 0 0 := by
  funext k
  by_cases h : k < 171 ∨ 183 < k
  · rw [mH_x h]
    unfold hM12 hM11 hM10 hM9 hM8 hM7 hM6 hM5 hM4 hM3 hM2 hM1
    rw [ups_x (by omega), ups_x (by omega), ups_x (by omega), ups_x (by omega), ups_x (by omega), ups_x (by omega), ups_x (by omega), ups_x (by omega), ups_x (by omega), ups_x (by omega), ups_x (by omega), ups_x (by omega), ups_x (by omega), ups_x (by omega), ups_x (by omega), ups_x (by omega), ups_x (by omega), ups_x (by omega), ups_x (by omega), ups_x (by omega), ups_x (by omega), ups_x (by omega), ups_x (by omega), ups_x (by omega)]
  · rcases (show k = 171 ∨ k = 172 ∨ k = 173 ∨ k = 174 ∨ k = 175 ∨ k = 176 ∨ k = 177 ∨ k = 178 ∨ k = 179 ∨ k = 180 ∨ k = 181 ∨ k = 182 ∨ k = 183 by omega) with h1 | h1 | h1 | h1 | h1 | h1 | h1 | h1 | h1 | h1 | h1 | h1 | h1
    · subst h1; rfl
    · subst h1; rfl
    · subst h1; rfl
    · subst h1; rfl
    · subst h1; rfl
    · subst h1; rfl
    · subst h1; rfl
    · subst h1; rfl
    · subst h1; rfl
    · subst h1; rfl
    · subst h1; rfl
    · subst h1; rfl
    · subst h1; rfl
theorem dX6_init_0 : decode cX6_init 0 = .ok (.aload_n 0, 1) := by decide +kernel
theorem dX6_init_1 : decode cX6_init 1 = .ok (.invokespecial 1, 3) := by decide +kernel
theorem dX6_init_4 : decode cX6_init 4 = .ok (.aload_n 0, 1) := by decide +kernel
theorem dX6_init_5 : decode cX6_init 5 = .ok (.bipush 96, 2) := by decide +kernel
theorem dX6_init_7 : decode cX6_init 7 = .ok (.newarray .int, 2) := by decide +kernel
theorem dX6_init_9 : decode cX6_init 9 = .ok (.putfield 7, 3) := by decide +kernel
theorem dX6_init_12 : decode cX6_init 12 = .ok (.aload_n 0, 1) := by decide +kernel
theorem dX6_init_13 : decode cX6_init 13 = .ok (.bipush 96, 2) := by decide +kernel
theorem dX6_init_15 : decode cX6_init 15 = .ok (.newarray .int, 2) := by decide +kernel
theorem dX6_init_17 : decode cX6_init 17 = .ok (.putfield 13, 3) := by decide +kernel
theorem dX6_init_20 : decode cX6_init 20 = .ok (.aload_n 0, 1) := by decide +kernel
theorem dX6_init_21 : decode cX6_init 21 = .ok (.sipush 192, 3) := by decide +kernel
theorem dX6_init_24 : decode cX6_init 24 = .ok (.newarray .int, 2) := by decide +kernel
theorem dX6_init_26 : decode cX6_init 26 = .ok (.putfield 16, 3) := by decide +kernel
theorem dX6_init_29 : decode cX6_init 29 = .ok (.aload_n 0, 1) := by decide +kernel
theorem dX6_init_30 : decode cX6_init 30 = .ok (.iconst 2, 1) := by decide +kernel
theorem dX6_init_31 : decode cX6_init 31 = .ok (.newarray .boolean, 2) := by decide +kernel
theorem dX6_init_33 : decode cX6_init 33 = .ok (.putfield 19, 3) := by decide +kernel
theorem dX6_init_36 : decode cX6_init 36 = .ok (.aload_n 0, 1) := by decide +kernel
theorem dX6_init_37 : decode cX6_init 37 = .ok (.sipush 2304, 3) := by decide +kernel
theorem dX6_init_40 : decode cX6_init 40 = .ok (.newarray .int, 2) := by decide +kernel
theorem dX6_init_42 : decode cX6_init 42 = .ok (.putfield 23, 3) := by decide +kernel
theorem dX6_init_45 : decode cX6_init 45 = .ok (.aload_n 0, 1) := by decide +kernel
theorem dX6_init_46 : decode cX6_init 46 = .ok (.bipush 8, 2) := by decide +kernel
theorem dX6_init_48 : decode cX6_init 48 = .ok (.newarray .int, 2) := by decide +kernel
theorem dX6_init_50 : decode cX6_init 50 = .ok (.putfield 26, 3) := by decide +kernel
theorem dX6_init_53 : decode cX6_init 53 = .ok (.aload_n 0, 1) := by decide +kernel
theorem dX6_init_54 : decode cX6_init 54 = .ok (.bipush 8, 2) := by decide +kernel
theorem dX6_init_56 : decode cX6_init 56 = .ok (.newarray .int, 2) := by decide +kernel
theorem dX6_init_58 : decode cX6_init 58 = .ok (.putfield 29, 3) := by decide +kernel
theorem dX6_init_61 : decode cX6_init 61 = .ok (.aload_n 0, 1) := by decide +kernel
theorem dX6_init_62 : decode cX6_init 62 = .ok (.sipush 320, 3) := by decide +kernel
theorem dX6_init_65 : decode cX6_init 65 = .ok (.newarray .int, 2) := by decide +kernel
theorem dX6_init_67 : decode cX6_init 67 = .ok (.putfield 32, 3) := by decide +kernel
theorem dX6_init_70 : decode cX6_init 70 = .ok (.aload_n 0, 1) := by decide +kernel
theorem dX6_init_71 : decode cX6_init 71 = .ok (.sipush 400, 3) := by decide +kernel
theorem dX6_init_74 : decode cX6_init 74 = .ok (.newarray .int, 2) := by decide +kernel
theorem dX6_init_76 : decode cX6_init 76 = .ok (.putfield 35, 3) := by decide +kernel
theorem dX6_init_79 : decode cX6_init 79 = .ok (.aload_n 0, 1) := by decide +kernel
theorem dX6_init_80 : decode cX6_init 80 = .ok (.bipush 6, 2) := by decide +kernel
theorem dX6_init_82 : decode cX6_init 82 = .ok (.newarray .int, 2) := by decide +kernel
theorem dX6_init_84 : decode cX6_init 84 = .ok (.putfield 38, 3) := by decide +kernel
theorem dX6_init_87 : decode cX6_init 87 = .ok (.aload_n 0, 1) := by decide +kernel
theorem dX6_init_88 : decode cX6_init 88 = .ok (.bipush 7, 2) := by decide +kernel
theorem dX6_init_90 : decode cX6_init 90 = .ok (.newarray .int, 2) := by decide +kernel
theorem dX6_init_92 : decode cX6_init 92 = .ok (.putfield 41, 3) := by decide +kernel
theorem dX6_init_95 : decode cX6_init 95 = .ok (.aload_n 0, 1) := by decide +kernel
theorem dX6_init_96 : decode cX6_init 96 = .ok (.bipush 16, 2) := by decide +kernel
theorem dX6_init_98 : decode cX6_init 98 = .ok (.newarray .int, 2) := by decide +kernel
theorem dX6_init_100 : decode cX6_init 100 = .ok (.putfield 44, 3) := by decide +kernel
theorem dX6_init_103 : decode cX6_init 103 = .ok (.iconst 0, 1) := by decide +kernel
theorem dX6_init_104 : decode cX6_init 104 = .ok (.istore_n 1, 1) := by decide +kernel
theorem dX6_init_105 : decode cX6_init 105 = .ok (.iload_n 1, 1) := by decide +kernel
theorem dX6_init_106 : decode cX6_init 106 = .ok (.bipush 8, 2) := by decide +kernel
theorem dX6_init_108 : decode cX6_init 108 = .ok (.if_icmp .ge 16, 3) := by decide +kernel
theorem dX6_init_111 : decode cX6_init 111 = .ok (.aload_n 0, 1) := by decide +kernel
theorem dX6_init_112 : decode cX6_init 112 = .ok (.getfield 26, 3) := by decide +kernel
theorem dX6_init_115 : decode cX6_init 115 = .ok (.iload_n 1, 1) := by decide +kernel
theorem dX6_init_116 : decode cX6_init 116 = .ok (.iconst (-1), 1) := by decide +kernel
theorem dX6_init_117 : decode cX6_init 117 = .ok (.iastore, 1) := by decide +kernel
theorem dX6_init_118 : decode cX6_init 118 = .ok (.iinc 1 1, 3) := by decide +kernel
theorem dX6_init_121 : decode cX6_init 121 = .ok (.goto (-16), 3) := by decide +kernel
theorem dX6_init_124 : decode cX6_init 124 = .ok (.return_, 1) := by decide +kernel
section N3
variable {G : GG} {σ : AH}
theorem k_model (h : σ 171 = some (.inr (.inr (6, dfl6)))) : Ct G yX6_init cX6_init 2 none 2 12 3455 172 σ [.ref 171] none 184 (mH σ (fun _ => 0) (fun _ => 0) (fun _ => 0) (fun _ => 0) (fun _ => 0) (fun _ => -1) (fun _ => 0) (fun _ => 0) (fun _ => 0) (fun _ => 0) (fun _ => 0) (fun _ => 0) 0 0 0 0 0 0 0 0 0 0 0 0) := by
  refine Ct.ofJI RX6 rfl [some (.ref 171), none] rfl (by decide) rfl (by simp [Value.category]) ?_
  refine j_aload_n dX6_init_0 rfl rfl ?_
  refine j_objInit dX6_init_1 oi_X6_1 (Nat.le_of_ble_eq_true rfl) (Nat.le_of_ble_eq_true rfl) ?_
  refine j_aload_n dX6_init_4 rfl rfl ?_
  refine j_bipush (nI 96) dX6_init_5 rfl ?_
  refine j_newa .int 0 (by decide) dX6_init_7 rfl ar_int rfl (Nat.le_of_ble_eq_true rfl) (Nat.le_of_ble_eq_true rfl) (Nat.le_of_ble_eq_true rfl) (Nat.le_of_ble_eq_true rfl) ?_
  refine j_putF dX6_init_9 6 0 rfl (Nat.le_of_ble_eq_true rfl) fl_X6_7 in_6 tyX6 tyX6_ok nmX6 rfl rfl (fun _ _ _ h => h) (fun _ => rfl) (fun _ => rfl) (by first | exact (ups_x (by omega)).trans h | exact (ups_x (by omega)).trans ups_a | exact h) (Nat.le_of_ble_eq_true rfl) _ (show _ = hM1 σ from rfl) ?_
  refine j_aload_n dX6_init_12 rfl rfl ?_
  refine j_bipush (nI 96) dX6_init_13 rfl ?_
  refine j_newa .int 0 (by decide) dX6_init_15 rfl ar_int rfl (Nat.le_of_ble_eq_true rfl) (Nat.le_of_ble_eq_true rfl) (Nat.le_of_ble_eq_true rfl) (Nat.le_of_ble_eq_true rfl) ?_
  refine j_putF dX6_init_17 6 1 rfl (Nat.le_of_ble_eq_true rfl) fl_X6_13 in_6 tyX6 tyX6_ok nmX6 rfl rfl (fun _ _ _ h => h) (fun _ => rfl) (fun _ => rfl) (by first | exact (ups_x (by omega)).trans h | exact (ups_x (by omega)).trans ups_a | exact h) (Nat.le_of_ble_eq_true rfl) _ (show _ = hM2 σ from rfl) ?_
  refine j_aload_n dX6_init_20 rfl rfl ?_
  refine j_sipush (nI 192) dX6_init_21 rfl ?_
  refine j_newa .int 0 (by decide) dX6_init_24 rfl ar_int rfl (Nat.le_of_ble_eq_true rfl) (Nat.le_of_ble_eq_true rfl) (Nat.le_of_ble_eq_true rfl) (Nat.le_of_ble_eq_true rfl) ?_
  refine j_putF dX6_init_26 6 2 rfl (Nat.le_of_ble_eq_true rfl) fl_X6_16 in_6 tyX6 tyX6_ok nmX6 rfl rfl (fun _ _ _ h => h) (fun _ => rfl) (fun _ => rfl) (by first | exact (ups_x (by omega)).trans h | exact (ups_x (by omega)).trans ups_a | exact h) (Nat.le_of_ble_eq_true rfl) _ (show _ = hM3 σ from rfl) ?_
  refine j_aload_n dX6_init_29 rfl rfl ?_
  refine j_iconst (nI 2) dX6_init_30 rfl ?_
  refine j_newa .boolean 2 (by decide) dX6_init_31 rfl ar_boolean rfl (Nat.le_of_ble_eq_true rfl) (Nat.le_of_ble_eq_true rfl) (Nat.le_of_ble_eq_true rfl) (Nat.le_of_ble_eq_true rfl) ?_
  refine j_putF dX6_init_33 6 3 rfl (Nat.le_of_ble_eq_true rfl) fl_X6_19 in_6 tyX6 tyX6_ok nmX6 rfl rfl (fun _ _ _ h => h) (fun _ => rfl) (fun _ => rfl) (by first | exact (ups_x (by omega)).trans h | exact (ups_x (by omega)).trans ups_a | exact h) (Nat.le_of_ble_eq_true rfl) _ (show _ = hM4 σ from rfl) ?_
  refine j_aload_n dX6_init_36 rfl rfl ?_
  refine j_sipush (nI 2304) dX6_init_37 rfl ?_
  refine j_newa .int 0 (by decide) dX6_init_40 rfl ar_int rfl (Nat.le_of_ble_eq_true rfl) (Nat.le_of_ble_eq_true rfl) (Nat.le_of_ble_eq_true rfl) (Nat.le_of_ble_eq_true rfl) ?_
  refine j_putF dX6_init_42 6 4 rfl (Nat.le_of_ble_eq_true rfl) fl_X6_23 in_6 tyX6 tyX6_ok nmX6 rfl rfl (fun _ _ _ h => h) (fun _ => rfl) (fun _ => rfl) (by first | exact (ups_x (by omega)).trans h | exact (ups_x (by omega)).trans ups_a | exact h) (Nat.le_of_ble_eq_true rfl) _ (show _ = hM5 σ from rfl) ?_
  refine j_aload_n dX6_init_45 rfl rfl ?_
  refine j_bipush (nI 8) dX6_init_46 rfl ?_
  refine j_newa .int 0 (by decide) dX6_init_48 rfl ar_int rfl (Nat.le_of_ble_eq_true rfl) (Nat.le_of_ble_eq_true rfl) (Nat.le_of_ble_eq_true rfl) (Nat.le_of_ble_eq_true rfl) ?_
  refine j_putF dX6_init_50 6 8 rfl (Nat.le_of_ble_eq_true rfl) fl_X6_26 in_6 tyX6 tyX6_ok nmX6 rfl rfl (fun _ _ _ h => h) (fun _ => rfl) (fun _ => rfl) (by first | exact (ups_x (by omega)).trans h | exact (ups_x (by omega)).trans ups_a | exact h) (Nat.le_of_ble_eq_true rfl) _ (show _ = hM6 σ from rfl) ?_
  refine j_aload_n dX6_init_53 rfl rfl ?_
  refine j_bipush (nI 8) dX6_init_54 rfl ?_
  refine j_newa .int 0 (by decide) dX6_init_56 rfl ar_int rfl (Nat.le_of_ble_eq_true rfl) (Nat.le_of_ble_eq_true rfl) (Nat.le_of_ble_eq_true rfl) (Nat.le_of_ble_eq_true rfl) ?_
  refine j_putF dX6_init_58 6 9 rfl (Nat.le_of_ble_eq_true rfl) fl_X6_29 in_6 tyX6 tyX6_ok nmX6 rfl rfl (fun _ _ _ h => h) (fun _ => rfl) (fun _ => rfl) (by first | exact (ups_x (by omega)).trans h | exact (ups_x (by omega)).trans ups_a | exact h) (Nat.le_of_ble_eq_true rfl) _ (show _ = hM7 σ from rfl) ?_
  refine j_aload_n dX6_init_61 rfl rfl ?_
  refine j_sipush (nI 320) dX6_init_62 rfl ?_
  refine j_newa .int 0 (by decide) dX6_init_65 rfl ar_int rfl (Nat.le_of_ble_eq_true rfl) (Nat.le_of_ble_eq_true rfl) (Nat.le_of_ble_eq_true rfl) (Nat.le_of_ble_eq_true rfl) ?_
  refine j_putF dX6_init_67 6 10 rfl (Nat.le_of_ble_eq_true rfl) fl_X6_32 in_6 tyX6 tyX6_ok nmX6 rfl rfl (fun _ _ _ h => h) (fun _ => rfl) (fun _ => rfl) (by first | exact (ups_x (by omega)).trans h | exact (ups_x (by omega)).trans ups_a | exact h) (Nat.le_of_ble_eq_true rfl) _ (show _ = hM8 σ from rfl) ?_
  refine j_aload_n dX6_init_70 rfl rfl ?_
  refine j_sipush (nI 400) dX6_init_71 rfl ?_
  refine j_newa .int 0 (by decide) dX6_init_74 rfl ar_int rfl (Nat.le_of_ble_eq_true rfl) (Nat.le_of_ble_eq_true rfl) (Nat.le_of_ble_eq_true rfl) (Nat.le_of_ble_eq_true rfl) ?_
  refine j_putF dX6_init_76 6 11 rfl (Nat.le_of_ble_eq_true rfl) fl_X6_35 in_6 tyX6 tyX6_ok nmX6 rfl rfl (fun _ _ _ h => h) (fun _ => rfl) (fun _ => rfl) (by first | exact (ups_x (by omega)).trans h | exact (ups_x (by omega)).trans ups_a | exact h) (Nat.le_of_ble_eq_true rfl) _ (show _ = hM9 σ from rfl) ?_
  refine j_aload_n dX6_init_79 rfl rfl ?_
  refine j_bipush (nI 6) dX6_init_80 rfl ?_
  refine j_newa .int 0 (by decide) dX6_init_82 rfl ar_int rfl (Nat.le_of_ble_eq_true rfl) (Nat.le_of_ble_eq_true rfl) (Nat.le_of_ble_eq_true rfl) (Nat.le_of_ble_eq_true rfl) ?_
  refine j_putF dX6_init_84 6 19 rfl (Nat.le_of_ble_eq_true rfl) fl_X6_38 in_6 tyX6 tyX6_ok nmX6 rfl rfl (fun _ _ _ h => h) (fun _ => rfl) (fun _ => rfl) (by first | exact (ups_x (by omega)).trans h | exact (ups_x (by omega)).trans ups_a | exact h) (Nat.le_of_ble_eq_true rfl) _ (show _ = hM10 σ from rfl) ?_
  refine j_aload_n dX6_init_87 rfl rfl ?_
  refine j_bipush (nI 7) dX6_init_88 rfl ?_
  refine j_newa .int 0 (by decide) dX6_init_90 rfl ar_int rfl (Nat.le_of_ble_eq_true rfl) (Nat.le_of_ble_eq_true rfl) (Nat.le_of_ble_eq_true rfl) (Nat.le_of_ble_eq_true rfl) ?_
  refine j_putF dX6_init_92 6 20 rfl (Nat.le_of_ble_eq_true rfl) fl_X6_41 in_6 tyX6 tyX6_ok nmX6 rfl rfl (fun _ _ _ h => h) (fun _ => rfl) (fun _ => rfl) (by first | exact (ups_x (by omega)).trans h | exact (ups_x (by omega)).trans ups_a | exact h) (Nat.le_of_ble_eq_true rfl) _ (show _ = hM11 σ from rfl) ?_
  refine j_aload_n dX6_init_95 rfl rfl ?_
  refine j_bipush (nI 16) dX6_init_96 rfl ?_
  refine j_newa .int 0 (by decide) dX6_init_98 rfl ar_int rfl (Nat.le_of_ble_eq_true rfl) (Nat.le_of_ble_eq_true rfl) (Nat.le_of_ble_eq_true rfl) (Nat.le_of_ble_eq_true rfl) ?_
  refine j_putF dX6_init_100 6 22 rfl (Nat.le_of_ble_eq_true rfl) fl_X6_44 in_6 tyX6 tyX6_ok nmX6 rfl rfl (fun _ _ _ h => h) (fun _ => rfl) (fun _ => rfl) (by first | exact (ups_x (by omega)).trans h | exact (ups_x (by omega)).trans ups_a | exact h) (Nat.le_of_ble_eq_true rfl) _ (show _ = hM12 σ from rfl) ?_
  refine j_iconst (nI 0) dX6_init_103 rfl ?_
  refine j_istore_n dX6_init_104 rfl (Nat.le_of_ble_eq_true rfl) rfl ?_
  rw [hM_all]
  suffices H : ∀ (kk i : Nat), i ≤ 8 → 8 < i + kk → J G RX6 cX6_init 2 none (TI G 2 12 3455 184 (mH σ (fun _ => 0) (fun _ => 0) (fun _ => 0) (fun _ => 0) (fun _ => 0) (fun _ => -1) (fun _ => 0) (fun _ => 0) (fun _ => 0) (fun _ => 0) (fun _ => 0) (fun _ => 0) 0 0 0 0 0 0 0 0 0 0 0 0)) 184 (mH σ (fun _ => 0) (fun _ => 0) (fun _ => 0) (fun _ => 0) (fun _ => 0) (fil (-1) (fun _ => 0) i) (fun _ => 0) (fun _ => 0) (fun _ => 0) (fun _ => 0) (fun _ => 0) (fun _ => 0) 0 0 0 0 0 0 0 0 0 0 0 0) 12 3455 105 [some (.ref 171), some (.int (nI i))] [] from H 9 0 (by omega) (by omega)
  intro kk
  induction kk with
  | zero => intro i h1 h2; exact absurd h2 (by omega)
  | succ kk ih =>
    intro i h1 h2
    by_cases hi : i < 8
    · refine j_iload_n dX6_init_105 rfl rfl ?_
      refine j_bipush (nI 8) dX6_init_106 rfl ?_
      refine j_icmp_geN 124 dX6_init_108 (by decide) (by omega) (by omega) (fun b108 => by exfalso; omega) (fun b108 => ?_)
      refine j_aload_n dX6_init_111 rfl rfl ?_
      refine j_getf dX6_init_112 6 8 rfl (Nat.le_of_ble_eq_true rfl) fl_X6_26 in_6 mH_o rfl ?_
      refine j_iload_n dX6_init_115 rfl rfl ?_
      refine j_iconst (-1) dX6_init_116 rfl ?_
      refine j_iast dX6_init_117 mH_a5 rfl (by omega) (by decide) _ (show _ = (mH σ (fun _ => 0) (fun _ => 0) (fun _ => 0) (fun _ => 0) (fun _ => 0) (fil (-1) (fun _ => 0) (i + 1)) (fun _ => 0) (fun _ => 0) (fun _ => 0) (fun _ => 0) (fun _ => 0) (fun _ => 0) 0 0 0 0 0 0 0 0 0 0 0 0) from mH_s5) ?_
      first | refine j_iincN dX6_init_118 rfl (Nat.le_of_ble_eq_true rfl) rfl ?_ | refine j_iinc _ dX6_init_118 rfl rfl (Nat.le_of_ble_eq_true rfl) rfl ?_
      refine j_goto 105 dX6_init_121 (by decide) ?_
      exact ih (i + 1) (by omega) (by omega)
    · obtain rfl : i = 8 := by omega
      refine j_arr (fun _ => -1) mH_a5 (fun j hj => by rw [fil_at, if_pos hj]) _ mH_s5 ?_
      refine j_iload_n dX6_init_105 rfl rfl ?_
      refine j_bipush (nI 8) dX6_init_106 rfl ?_
      refine j_icmp_geN 124 dX6_init_108 (by decide) (by omega) (by omega) (fun b108 => ?_) (fun b108 => by exfalso; omega)
      exact j_vretI rfl dX6_init_124 rfl rfl (Nat.le_of_ble_eq_true rfl) (Nat.le_of_ble_eq_true rfl)
end N3

/-! THE CONSTRUCTOR of the class itself -/
abbrev dfl5 : List Value := [.null, .null, .int 0, .int 0, .null, .null, .null, .null, .null, .null]
theorem df_5 (G : GG) : ∀ j, j < 10 → defaultValue (tyX5 j) = vp_V (dfl5.map (cV G)) j := by
  intro j hj
  match j, hj with
  | 0, _ => rfl
  | 1, _ => rfl
  | 2, _ => rfl
  | 3, _ => rfl
  | 4, _ => rfl
  | 5, _ => rfl
  | 6, _ => rfl
  | 7, _ => rfl
  | 8, _ => rfl
  | 9, _ => rfl
def fB (i : Nat) : Nat → Option Nat := fun j => if j < i then some (2 + 2 * j) else none
theorem fB_0 : (fun _ => none) = fB 0 := by funext j; simp [fB]
theorem fB_s (i : Nat) : updR (fB i) i (2 + 2 * i) = fB (i + 1) := by
  funext j
  unfold updR fB
  by_cases h : j = i
  · subst h; simp
  · rw [if_neg h]
    by_cases h2 : j < i
    · rw [if_pos h2, if_pos (by omega)]
    · rw [if_neg h2, if_neg (by omega)]
def kRw (σ : AH) : Nat → AH
  | 0 => ups (ups σ 1 (.inr (.inl (3, 8, fB 0)))) 0 (.inr (.inr (5, dfl5.set 0 (.ref 1))))
  | i + 1 => ups (rw' (ups (kRw σ i) (2 + 2 * i) (.inr (.inr (3, dfl3)))) (2 + 2 * i) (fun _ => 0) (-1) (nI 0)) 1 (.inr (.inl (3, 8, fB (i + 1))))
theorem kRw_o {σ : AH} : ∀ i, kRw σ i 0 = some (.inr (.inr (5, dfl5.set 0 (.ref 1))))
  | 0 => ups_a
  | i + 1 => (ups_x (by omega)).trans ((rw_x (by omega)).trans ((ups_x (by omega)).trans (kRw_o i)))
theorem kRw_a {σ : AH} : ∀ i, kRw σ i 1 = some (.inr (.inl (3, 8, fB i)))
  | 0 => ups_xa (by omega)
  | i + 1 => ups_a
theorem kRw_t {σ : AH} {j : Nat} : ∀ i, j < i → Rat (kRw σ i) (2 + 2 * j) (fun _ => 0) (-1) (nI 0)
  | 0, h => absurd h (by omega)
  | i + 1, h => by
    by_cases hj : j < i
    · exact (kRw_t i hj).keep (fun k h1 h2 => (ups_x (by omega)).trans ((rw_x (by omega)).trans (ups_x (by omega))))
    · obtain rfl : j = i := by omega
      exact Rat.new.keep (fun k h1 h2 => ups_x (by omega))
def fC (i : Nat) : Nat → Option Nat := fun j => if j < i then some (158 + 5 * j) else none
theorem fC_0 : (fun _ => none) = fC 0 := by funext j; simp [fC]
theorem fC_s (i : Nat) : updR (fC i) i (158 + 5 * i) = fC (i + 1) := by
  funext j
  unfold updR fC
  by_cases h : j = i
  · subst h; simp
  · rw [if_neg h]
    by_cases h2 : j < i
    · rw [if_pos h2, if_pos (by omega)]
    · rw [if_neg h2, if_neg (by omega)]
abbrev ob (a b c d e f g h : Value) : AE := .inr (.inr (5, [a, b, .int 0, .int 0, c, d, e, f, g, h]))
def hA2 (σ : AH) : AH := ups (kRw σ 8) 1 (.inr (.inl (3, 8, fun r => some (2 + 2 * r))))
def hA3 (σ : AH) : AH := ups (kRd (ups (hA2 σ) 18 (.inr (.inr (2, dfl2)))) 18) 0 (ob (.ref 1) (.ref 18) .null .null .null .null .null .null)
def hA4 (σ : AH) : AH := ups (twS (ups (hA3 σ) 25 (.inr (.inr (4, dfl4)))) 25 T0) 0 (ob (.ref 1) (.ref 18) (.ref 25) .null .null .null .null .null)
def hA5 (σ : AH) : AH := ups (twS (ups (hA4 σ) 30 (.inr (.inr (4, dfl4)))) 30 T0) 0 (ob (.ref 1) (.ref 18) (.ref 25) (.ref 30) .null .null .null .null)
def hA6 (σ : AH) : AH := ups (ups (kAs (ups (hA5 σ) 35 (.inr (.inr (0, dfl0)))) 35 24) (35 + 1) (.inr (.inl (4, 24, fun i => some (35 + 2 + 5 * i))))) 0 (ob (.ref 1) (.ref 18) (.ref 25) (.ref 30) (.ref 35) .null .null .null)
def kIm (σ : AH) : Nat → AH
  | 0 => ups (ups (hA6 σ) 157 (.inr (.inl (4, 2, fC 0)))) 0 (ob (.ref 1) (.ref 18) (.ref 25) (.ref 30) (.ref 35) (.ref 157) .null .null)
  | i + 1 => ups (twS (ups (kIm σ i) (158 + 5 * i) (.inr (.inr (4, dfl4)))) (158 + 5 * i) T0) 157 (.inr (.inl (4, 2, fC (i + 1))))
theorem kIm_x {σ : AH} {k : Nat} (h0 : 0 < k) (h : k < 157) : ∀ i, kIm σ i k = hA6 σ k
  | 0 => (ups_x (by omega)).trans (ups_x (by omega))
  | i + 1 => (ups_x (by omega)).trans ((twS_x (by omega)).trans ((ups_x (by omega)).trans (kIm_x h0 h i)))
theorem kIm_o {σ : AH} : ∀ i, kIm σ i 0 = some (ob (.ref 1) (.ref 18) (.ref 25) (.ref 30) (.ref 35) (.ref 157) .null .null)
  | 0 => ups_a
  | i + 1 => (ups_x (by omega)).trans ((twS_x (by omega)).trans ((ups_x (by omega)).trans (kIm_o i)))
theorem kIm_a {σ : AH} : ∀ i, kIm σ i 157 = some (.inr (.inl (4, 2, fC i)))
  | 0 => ups_xa (by omega)
  | i + 1 => ups_a
theorem kIm_t {σ : AH} {j : Nat} : ∀ i, j < i → Tat (kIm σ i) (158 + 5 * j) T0
  | 0, h => absurd h (by omega)
  | i + 1, h => by
    by_cases hj : j < i
    · exact (kIm_t i hj).keep (fun k h1 h2 => (ups_x (by omega)).trans ((twS_x (by omega)).trans (ups_x (by omega))))
    · obtain rfl : j = i := by omega
      exact Tat.new.keep (fun k h1 h2 => ups_x (by omega))
def hA7 (σ : AH) : AH := ups (kIm σ 2) 157 (.inr (.inl (4, 2, fun i => some (158 + 5 * i))))
def hA8 (σ : AH) : AH := ups (ups (ups (ups (hA7 σ) 168 (.inr (.inr (1, dfl1)))) (168 + 1) (.inl (0, 16, fun _ => 0))) 168 (.inr (.inr (1, [.ref (168 + 1), .int 0])))) 0 (ob (.ref 1) (.ref 18) (.ref 25) (.ref 30) (.ref 35) (.ref 157) (.ref 168) .null)
def hA9 (σ : AH) : AH := ups (ups (hA8 σ) 170 (.inl (0, 7, fun _ => 0))) 0 (ob (.ref 1) (.ref 18) (.ref 25) (.ref 30) (.ref 35) (.ref 157) (.ref 168) (.ref 170))
section N2
variable {G : GG} {σ : AH}
theorem hA9_x {k : Nat} (h0 : 0 < k) (h : k < 170) : hA9 σ k = hA8 σ k := (ups_x (by omega)).trans (ups_x (by omega))
theorem hA8_x {k : Nat} (h0 : 0 < k) (h : k < 168) : hA8 σ k = hA7 σ k := (ups_x (by omega)).trans ((ups_x (by omega)).trans ((ups_x (by omega)).trans (ups_x (by omega))))
theorem hA7_x {k : Nat} (h0 : 0 < k) (h : k < 157) : hA7 σ k = hA6 σ k := (ups_x (by omega)).trans (kIm_x h0 h 2)
theorem hA6_x {k : Nat} (h0 : 0 < k) (h : k < 35) : hA6 σ k = hA5 σ k := (ups_x (by omega)).trans ((ups_x (by omega)).trans ((kAs_x h 24).trans (ups_x (by omega))))
theorem hA5_x {k : Nat} (h0 : 0 < k) (h : k < 30) : hA5 σ k = hA4 σ k := (ups_x (by omega)).trans ((twS_x (by omega)).trans (ups_x (by omega)))
theorem hA4_x {k : Nat} (h0 : 0 < k) (h : k < 25) : hA4 σ k = hA3 σ k := (ups_x (by omega)).trans ((twS_x (by omega)).trans (ups_x (by omega)))
theorem kRd_x {k t : Nat} (h : k < t) : kRd σ t k = σ k := (ups_x (by omega)).trans ((twS_x (by omega)).trans ((ups_x (by omega)).trans ((ups_x (by omega)).trans (ups_x (by omega)))))
theorem hA3_x {k : Nat} (h0 : 0 < k) (h : k < 18) : hA3 σ k = hA2 σ k := (ups_x (by omega)).trans ((kRd_x h).trans (ups_x (by omega)))
theorem hB8 {k : Nat} (h0 : 0 < k) (h : k < 168) : hA9 σ k = hA7 σ k := (hA9_x h0 (by omega)).trans (hA8_x h0 h)
theorem hB7 {k : Nat} (h0 : 0 < k) (h : k < 157) : hA9 σ k = hA6 σ k := (hB8 h0 (by omega)).trans (hA7_x h0 h)
theorem hB6 {k : Nat} (h0 : 0 < k) (h : k < 35) : hA9 σ k = hA5 σ k := (hB7 h0 (by omega)).trans (hA6_x h0 h)
theorem hB5 {k : Nat} (h0 : 0 < k) (h : k < 30) : hA9 σ k = hA4 σ k := (hB6 h0 (by omega)).trans (hA5_x h0 h)
theorem hB4 {k : Nat} (h0 : 0 < k) (h : k < 25) : hA9 σ k = hA3 σ k := (hB5 h0 (by omega)).trans (hA4_x h0 h)
theorem hB3 {k : Nat} (h0 : 0 < k) (h : k < 18) : hA9 σ k = hA2 σ k := (hB4 h0 (by omega)).trans (hA3_x h0 h)
theorem XR_new : XR (hA9 σ) (nI 0) (nI 0) (fun _ => -1) (fun _ => nI 0) (fun _ _ => 0) (fun _ => 0) (rdF 0 (0, 0, 0, 0, 0, 0)) T0 T0 T0 0 0 (fun _ => T0) (fun _ => T0) 0 (fun _ => 0) (fun _ => 0) := by
  refine ⟨ups_a, (hB3 (by omega) (by omega)).trans ups_a, fun r hr => ?_, ?_, ?_, ?_, ?_, ?_, ?_, ?_, ?_, ?_, ?_, ?_, ?_, ?_⟩
  · exact (kRw_t 8 hr).keep (fun k h1 h2 => (hB3 (by omega) (by omega)).trans (ups_x (by omega)))
  · exact (hB4 (by omega) (by omega)).trans ((ups_x (by omega)).trans ups_a)
  · exact (hB4 (by omega) (by omega)).trans ((ups_x (by omega)).trans ((ups_x (by omega)).trans ((twS_x (by omega)).trans ((ups_x (by omega)).trans ((ups_x (by omega)).trans ups_a)))))
  · exact (Tat.new (σ := ups (ups (ups (ups (hA2 σ) 18 (.inr (.inr (2, dfl2)))) 19 (.inl (1, 400, fun _ => 0))) 18 (.inr (.inr (2, [.ref 19, .null, .int 0, .int 0, .int 0, .int 0, .int 0, .int 0, .int 0])))) 20 (.inr (.inr (4, dfl4)))) (t := 20) (s := T0)).keep (fun k h1 h2 => (hB4 (by omega) (by omega)).trans ((ups_x (by omega)).trans (ups_x (by omega))))
  · exact (Tat.new (σ := ups (hA3 σ) 25 (.inr (.inr (4, dfl4)))) (t := 25) (s := T0)).keep (fun k h1 h2 => (hB5 (by omega) (by omega)).trans (ups_x (by omega)))
  · exact (Tat.new (σ := ups (hA4 σ) 30 (.inr (.inr (4, dfl4)))) (t := 30) (s := T0)).keep (fun k h1 h2 => (hB6 (by omega) (by omega)).trans (ups_x (by omega)))
  · exact (hB7 (by omega) (by omega)).trans ((ups_x (by omega)).trans ((ups_x (by omega)).trans (kAs_o 24)))
  · exact (hB7 (by omega) (by omega)).trans ((ups_x (by omega)).trans ups_a)
  · intro i hi
    exact (kAs_t (t := 35) 24 hi).keep (fun k h1 h2 => (hB7 (by omega) (by omega)).trans ((ups_x (by omega)).trans (ups_x (by omega))))
  · exact (hB8 (by omega) (by omega)).trans ups_a
  · intro i hi
    exact (kIm_t 2 hi).keep (fun k h1 h2 => (hB8 (by omega) (by omega)).trans (ups_x (by omega)))
  · exact (hA9_x (by omega) (by omega)).trans ((ups_x (by omega)).trans ups_a)
  · exact (hA9_x (by omega) (by omega)).trans ((ups_x (by omega)).trans ((ups_x (by omega)).trans ups_a))
  · exact (ups_x (by omega)).trans ups_a
theorem k_front (h : σ 0 = some (.inr (.inr (5, dfl5)))) : Ct G yX5_init cX5_init 2 none 3 170 3135 1 σ [.ref 0] none 171 (hA9 σ) := by
  refine Ct.ofJI RX5 rfl [some (.ref 0), none] rfl (by decide) rfl (by simp [Value.category]) ?_
  refine j_aload_n dX5_init_0 rfl rfl ?_
  refine j_objInit dX5_init_1 oi_X5_1 (Nat.le_of_ble_eq_true rfl) (Nat.le_of_ble_eq_true rfl) ?_
  refine j_aload_n dX5_init_4 rfl rfl ?_
  refine j_bipush (nI 8) dX5_init_5 rfl ?_
  refine j_anew 3 dX5_init_7 cl_X5_9 rfl ao_3 rfl (Nat.le_of_ble_eq_true rfl) (Nat.le_of_ble_eq_true rfl) (Nat.le_of_ble_eq_true rfl) (Nat.le_of_ble_eq_true rfl) ?_
  refine j_putF dX5_init_10 5 0 rfl (Nat.le_of_ble_eq_true rfl) fl_X5_11 in_5 tyX5 tyX5_ok nmX5 rfl rfl (fun _ _ _ h => h) (fun _ => rfl) (fun _ => rfl) (by first | exact h | exact ups_a | exact (ups_x (by omega)).trans h) (Nat.le_of_ble_eq_true rfl) _ (show _ = kRw σ 0 by rw [fB_0]; rfl) ?_
  refine j_iconst (nI 0) dX5_init_13 rfl ?_
  refine j_istore_n dX5_init_14 rfl (Nat.le_of_ble_eq_true rfl) rfl ?_
  suffices H : ∀ (kk i z' kc' ks' : Nat), i ≤ 8 → 8 < i + kk → z' = 2 + 2 * i → kc' = 1 + 2 * i → ks' = 8 + 43 * i → J G RX5 cX5_init 2 none (TI G 3 170 3135 171 (hA9 σ)) z' (kRw σ i) kc' ks' 15 [some (.ref 0), some (.int (nI i))] [] from H 9 0 _ _ _ (by omega) (by omega) (by omega) (by omega) (by omega)
  intro kk
  induction kk with
  | zero => intro i z' kc' ks' h1 h2; exact absurd h2 (by omega)
  | succ kk ih =>
    intro i z' kc' ks' h1 h2 h3 h4 h5
    subst h3; subst h4; subst h5
    by_cases hi : i < 8
    · refine j_iload_n dX5_init_15 rfl rfl ?_
      refine j_bipush (nI 8) dX5_init_16 rfl ?_
      refine j_icmp_geN 40 dX5_init_18 (by decide) (by omega) (by omega) (fun b18 => by exfalso; omega) (fun b18 => ?_)
      refine j_aload_n dX5_init_21 rfl rfl ?_
      refine j_getf dX5_init_22 5 0 rfl (Nat.le_of_ble_eq_true rfl) fl_X5_11 in_5 (by first | exact kRw_o i | exact kRw_a i) rfl ?_
      refine j_iload_n dX5_init_25 rfl rfl ?_
      refine j_new dX5_init_26 3 rfl cl_X5_9 nw_3 in_3 tyX3 tyX3_ok dfl3 (df_3 G) (by show _ < 1000000; omega) (by show _ ≤ 170; omega) (by show _ ≤ 3135; omega) ?_
      refine j_dup dX5_init_29 rfl ?_
      refine j_callI (k_row ups_a (by omega)) dX5_init_30 rfl mi_X5_15 ⟨(Nat.le_of_ble_eq_true rfl), (Nat.le_of_ble_eq_true rfl)⟩ ⟨by show _ ≤ 170; omega, by show _ ≤ 3135; omega⟩ (Nat.le_of_ble_eq_true rfl) ?_
      refine j_aast 3 dX5_init_33 ((rw_x (Or.inl (by omega))).trans ((ups_x (by omega)).trans (kRw_a i))) rfl rfl (Rat.new.o) rfl hi (by decide) (kRw σ (i + 1)) (by rw [fB_s]; rfl) ?_
      first | refine j_iincN dX5_init_34 rfl (Nat.le_of_ble_eq_true rfl) rfl ?_ | refine j_iinc _ dX5_init_34 rfl rfl (Nat.le_of_ble_eq_true rfl) rfl ?_
      refine j_goto 15 dX5_init_37 (by decide) ?_
      exact ih (i + 1) _ _ _ (by omega) (by omega) (by omega) (by omega) (by omega)
    · obtain rfl : i = 8 := by omega
      refine j_arrR (fun i => some (2 + 2 * i)) (kRw_a 8) (fun j hj => by unfold fB; rw [if_pos hj]) (hA2 σ) rfl ?_
      refine j_iload_n dX5_init_15 rfl rfl ?_
      refine j_bipush (nI 8) dX5_init_16 rfl ?_
      refine j_icmp_geN 40 dX5_init_18 (by decide) (by omega) (by omega) (fun b18 => ?_) (fun b18 => by exfalso; omega)
      refine j_aload_n dX5_init_40 rfl rfl ?_
      refine j_new dX5_init_41 2 rfl cl_X5_16 nw_2 in_2 tyX2 tyX2_ok dfl2 (df_2 G) (Nat.le_of_ble_eq_true rfl) (Nat.le_of_ble_eq_true rfl) (Nat.le_of_ble_eq_true rfl) ?_
      refine j_dup dX5_init_44 rfl ?_
      refine j_callI (k_reader (t := 18) ups_a (by omega)) dX5_init_45 rfl mi_X5_18 ⟨(Nat.le_of_ble_eq_true rfl), (Nat.le_of_ble_eq_true rfl)⟩ ⟨(Nat.le_of_ble_eq_true rfl), (Nat.le_of_ble_eq_true rfl)⟩ (Nat.le_of_ble_eq_true rfl) ?_
      refine j_putF dX5_init_48 5 1 rfl (Nat.le_of_ble_eq_true rfl) fl_X5_19 in_5 tyX5 tyX5_ok nmX5 rfl rfl (fun _ _ _ h => h) (fun _ => rfl) (fun _ => rfl) (by first | exact (ups_x (by omega)).trans (kRw_o 8) | exact (ups_x (by omega)).trans ups_a | exact (kRd_x (by omega)).trans ((ups_x (by omega)).trans ((ups_x (by omega)).trans (kRw_o 8))) | exact (twS_x (by omega)).trans ((ups_x (by omega)).trans ups_a)) (Nat.le_of_ble_eq_true rfl) _ (show _ = hA3 σ from rfl) ?_
      refine j_aload_n dX5_init_51 rfl rfl ?_
      refine j_new dX5_init_52 4 rfl cl_X5_23 nw_4 in_4 tyX4 tyX4_ok dfl4 (df_4 G) (Nat.le_of_ble_eq_true rfl) (Nat.le_of_ble_eq_true rfl) (Nat.le_of_ble_eq_true rfl) ?_
      refine j_dup dX5_init_55 rfl ?_
      refine j_callI (k_town (t := 25) ups_a (by omega)) dX5_init_56 rfl mi_X5_25 ⟨(Nat.le_of_ble_eq_true rfl), (Nat.le_of_ble_eq_true rfl)⟩ ⟨(Nat.le_of_ble_eq_true rfl), (Nat.le_of_ble_eq_true rfl)⟩ (Nat.le_of_ble_eq_true rfl) ?_
      refine j_putF dX5_init_59 5 4 rfl (Nat.le_of_ble_eq_true rfl) fl_X5_26 in_5 tyX5 tyX5_ok nmX5 rfl rfl (fun _ _ _ h => h) (fun _ => rfl) (fun _ => rfl) (by first | exact (ups_x (by omega)).trans (kRw_o 8) | exact (ups_x (by omega)).trans ups_a | exact (kRd_x (by omega)).trans ((ups_x (by omega)).trans ((ups_x (by omega)).trans (kRw_o 8))) | exact (twS_x (by omega)).trans ((ups_x (by omega)).trans ups_a)) (Nat.le_of_ble_eq_true rfl) _ (show _ = hA4 σ from rfl) ?_
      refine j_aload_n dX5_init_62 rfl rfl ?_
      refine j_new dX5_init_63 4 rfl cl_X5_23 nw_4 in_4 tyX4 tyX4_ok dfl4 (df_4 G) (Nat.le_of_ble_eq_true rfl) (Nat.le_of_ble_eq_true rfl) (Nat.le_of_ble_eq_true rfl) ?_
      refine j_dup dX5_init_66 rfl ?_
      refine j_callI (k_town (t := 30) ups_a (by omega)) dX5_init_67 rfl mi_X5_25 ⟨(Nat.le_of_ble_eq_true rfl), (Nat.le_of_ble_eq_true rfl)⟩ ⟨(Nat.le_of_ble_eq_true rfl), (Nat.le_of_ble_eq_true rfl)⟩ (Nat.le_of_ble_eq_true rfl) ?_
      refine j_putF dX5_init_70 5 5 rfl (Nat.le_of_ble_eq_true rfl) fl_X5_30 in_5 tyX5 tyX5_ok nmX5 rfl rfl (fun _ _ _ h => h) (fun _ => rfl) (fun _ => rfl) (by first | exact (ups_x (by omega)).trans (kRw_o 8) | exact (ups_x (by omega)).trans ups_a | exact (kRd_x (by omega)).trans ((ups_x (by omega)).trans ((ups_x (by omega)).trans (kRw_o 8))) | exact (twS_x (by omega)).trans ((ups_x (by omega)).trans ups_a)) (Nat.le_of_ble_eq_true rfl) _ (show _ = hA5 σ from rfl) ?_
      refine j_aload_n dX5_init_73 rfl rfl ?_
      refine j_new dX5_init_74 0 rfl cl_X5_33 nw_0 in_0 tyX0 tyX0_ok dfl0 (df_0 G) (Nat.le_of_ble_eq_true rfl) (Nat.le_of_ble_eq_true rfl) (Nat.le_of_ble_eq_true rfl) ?_
      refine j_dup dX5_init_77 rfl ?_
      refine j_callI (k_acts (t := 35) ups_a (by omega)) dX5_init_78 rfl mi_X5_35 ⟨(Nat.le_of_ble_eq_true rfl), (Nat.le_of_ble_eq_true rfl)⟩ ⟨(Nat.le_of_ble_eq_true rfl), (Nat.le_of_ble_eq_true rfl)⟩ (Nat.le_of_ble_eq_true rfl) ?_
      refine j_putF dX5_init_81 5 6 rfl (Nat.le_of_ble_eq_true rfl) fl_X5_36 in_5 tyX5 tyX5_ok nmX5 rfl rfl (fun _ _ _ h => h) (fun _ => rfl) (fun _ => rfl) ((ups_x (by omega)).trans ((kAs_x (by omega) 24).trans ((ups_x (by omega)).trans ups_a))) (Nat.le_of_ble_eq_true rfl) _ (show _ = hA6 σ from rfl) ?_
      refine j_aload_n dX5_init_84 rfl rfl ?_
      refine j_iconst (nI 2) dX5_init_85 rfl ?_
      refine j_anew 4 dX5_init_86 cl_X5_23 rfl ao_4 rfl (Nat.le_of_ble_eq_true rfl) (Nat.le_of_ble_eq_true rfl) (Nat.le_of_ble_eq_true rfl) (Nat.le_of_ble_eq_true rfl) ?_
      refine j_putF dX5_init_89 5 7 rfl (Nat.le_of_ble_eq_true rfl) fl_X5_40 in_5 tyX5 tyX5_ok nmX5 rfl rfl (fun _ _ _ h => h) (fun _ => rfl) (fun _ => rfl) (by first | exact (ups_x (by omega)).trans (kRw_o 8) | exact (ups_x (by omega)).trans ups_a | exact (kRd_x (by omega)).trans ((ups_x (by omega)).trans ((ups_x (by omega)).trans (kRw_o 8))) | exact (twS_x (by omega)).trans ((ups_x (by omega)).trans ups_a)) (Nat.le_of_ble_eq_true rfl) _ (show _ = kIm σ 0 by rw [fC_0]; rfl) ?_
      refine j_iconst (nI 0) dX5_init_92 rfl ?_
      refine j_istore_n dX5_init_93 rfl (Nat.le_of_ble_eq_true rfl) rfl ?_
      suffices H : ∀ (kk i z' kc' ks' : Nat), i ≤ 2 → 2 < i + kk → z' = 158 + 5 * i → kc' = 157 + 5 * i → ks' = 2950 + 80 * i → J G RX5 cX5_init 2 none (TI G 3 170 3135 171 (hA9 σ)) z' (kIm σ i) kc' ks' 94 [some (.ref 0), some (.int (nI i))] [] from H 3 0 _ _ _ (by omega) (by omega) (by omega) (by omega) (by omega)
      clear ih h1 h2
      intro kk
      induction kk with
      | zero => intro i z' kc' ks' h1 h2; exact absurd h2 (by omega)
      | succ kk ih =>
        intro i z' kc' ks' h1 h2 h3 h4 h5
        subst h3; subst h4; subst h5
        by_cases hi : i < 2
        · refine j_iload_n dX5_init_94 rfl rfl ?_
          refine j_iconst (nI 2) dX5_init_95 rfl ?_
          refine j_icmp_geN 118 dX5_init_96 (by decide) (by omega) (by omega) (fun b96 => by exfalso; omega) (fun b96 => ?_)
          refine j_aload_n dX5_init_99 rfl rfl ?_
          refine j_getf dX5_init_100 5 7 rfl (Nat.le_of_ble_eq_true rfl) fl_X5_40 in_5 (by first | exact kIm_o i | exact kIm_a i) rfl ?_
          refine j_iload_n dX5_init_103 rfl rfl ?_
          refine j_new dX5_init_104 4 rfl cl_X5_23 nw_4 in_4 tyX4 tyX4_ok dfl4 (df_4 G) (by show _ < 1000000; omega) (by show _ ≤ 170; omega) (by show _ ≤ 3135; omega) ?_
          refine j_dup dX5_init_107 rfl ?_
          refine j_callI (k_town ups_a (by omega)) dX5_init_108 rfl mi_X5_25 ⟨(Nat.le_of_ble_eq_true rfl), (Nat.le_of_ble_eq_true rfl)⟩ ⟨by show _ ≤ 170; omega, by show _ ≤ 3135; omega⟩ (Nat.le_of_ble_eq_true rfl) ?_
          refine j_aast 4 dX5_init_111 ((twS_x (Or.inl (by omega))).trans ((ups_x (by omega)).trans (kIm_a i))) rfl rfl (Tat.new.o) rfl hi (by decide) (kIm σ (i + 1)) (by rw [fC_s]; rfl) ?_
          first | refine j_iincN dX5_init_112 rfl (Nat.le_of_ble_eq_true rfl) rfl ?_ | refine j_iinc _ dX5_init_112 rfl rfl (Nat.le_of_ble_eq_true rfl) rfl ?_
          refine j_goto 94 dX5_init_115 (by decide) ?_
          exact ih (i + 1) _ _ _ (by omega) (by omega) (by omega) (by omega) (by omega)
        · obtain rfl : i = 2 := by omega
          refine j_arrR (fun i => some (158 + 5 * i)) (kIm_a 2) (fun j hj => by unfold fC; rw [if_pos hj]) (hA7 σ) rfl ?_
          refine j_iload_n dX5_init_94 rfl rfl ?_
          refine j_iconst (nI 2) dX5_init_95 rfl ?_
          refine j_icmp_geN 118 dX5_init_96 (by decide) (by omega) (by omega) (fun b96 => ?_) (fun b96 => by exfalso; omega)
          refine j_aload_n dX5_init_118 rfl rfl ?_
          refine j_new dX5_init_119 1 rfl cl_X5_44 nw_1 in_1 tyX1 tyX1_ok dfl1 (df_1 G) (Nat.le_of_ble_eq_true rfl) (Nat.le_of_ble_eq_true rfl) (Nat.le_of_ble_eq_true rfl) ?_
          refine j_dup dX5_init_122 rfl ?_
          refine j_callI (k_asks (t := 168) ups_a (by omega)) dX5_init_123 rfl mi_X5_46 ⟨(Nat.le_of_ble_eq_true rfl), (Nat.le_of_ble_eq_true rfl)⟩ ⟨(Nat.le_of_ble_eq_true rfl), (Nat.le_of_ble_eq_true rfl)⟩ (Nat.le_of_ble_eq_true rfl) ?_
          refine j_putF dX5_init_126 5 8 rfl (Nat.le_of_ble_eq_true rfl) fl_X5_47 in_5 tyX5 tyX5_ok nmX5 rfl rfl (fun _ _ _ h => h) (fun _ => rfl) (fun _ => rfl) (by first | exact (ups_x (by omega)).trans ((ups_x (by omega)).trans ((ups_x (by omega)).trans ((ups_x (by omega)).trans (kIm_o 2)))) | exact (ups_x (by omega)).trans ups_a) (Nat.le_of_ble_eq_true rfl) _ (show _ = hA8 σ from rfl) ?_
          refine j_aload_n dX5_init_129 rfl rfl ?_
          refine j_bipush (nI 7) dX5_init_130 rfl ?_
          refine j_newa .int 0 (by decide) dX5_init_132 rfl ar_int rfl (Nat.le_of_ble_eq_true rfl) (Nat.le_of_ble_eq_true rfl) (Nat.le_of_ble_eq_true rfl) (Nat.le_of_ble_eq_true rfl) ?_
          refine j_putF dX5_init_134 5 9 rfl (Nat.le_of_ble_eq_true rfl) fl_X5_51 in_5 tyX5 tyX5_ok nmX5 rfl rfl (fun _ _ _ h => h) (fun _ => rfl) (fun _ => rfl) (by first | exact (ups_x (by omega)).trans ((ups_x (by omega)).trans ((ups_x (by omega)).trans ((ups_x (by omega)).trans (kIm_o 2)))) | exact (ups_x (by omega)).trans ups_a) (Nat.le_of_ble_eq_true rfl) _ (show _ = hA9 σ from rfl) ?_
          exact j_vretI rfl dX5_init_137 rfl rfl (Nat.le_of_ble_eq_true rfl) (Nat.le_of_ble_eq_true rfl)
end N2

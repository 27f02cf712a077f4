/-! WHAT HOLDS OF TOWNS: debts 0 to 99999, cash never below 0 and bounded in all -/
theorem ti_add {x y : Int32} (h1 : -2147483648 ≤ x.toInt + y.toInt) (h2 : x.toInt + y.toInt < 2147483648) : (x + y).toInt = x.toInt + y.toInt := by
  rw [Int32.toInt_add]; simp only [Int.bmod]; split <;> omega
theorem ti_sub {x y : Int32} (h1 : -2147483648 ≤ x.toInt - y.toInt) (h2 : x.toInt - y.toInt < 2147483648) : (x - y).toInt = x.toInt - y.toInt := by
  rw [Int32.toInt_sub]; simp only [Int.bmod]; split <;> omega
theorem ti_neg {x : Int32} (h1 : -2147483648 < x.toInt) (h2 : x.toInt < 2147483648) : (-x).toInt = -x.toInt := by
  rw [Int32.toInt_neg]; simp only [Int.bmod]; split <;> omega
theorem ti_lt {x y : Int32} : x < y ↔ x.toInt < y.toInt := Int32.lt_iff_toInt_lt
theorem ti_le {x y : Int32} : x ≤ y ↔ x.toInt ≤ y.toInt := Int32.le_iff_toInt_le
theorem ti_0 : (0 : Int32).toInt = 0 := by decide
theorem ti_lo (x : Int32) : -2147483648 ≤ x.toInt := by have := Int32.le_toInt x; omega
theorem ti_hi (x : Int32) : x.toInt < 2147483648 := by have := Int32.toInt_lt x; omega
theorem ti_min {x y : Int32} : (minI x y).toInt = min x.toInt y.toInt := by
  unfold minI
  by_cases h : y < x
  · rw [if_pos h]; have := ti_lt.mp h; omega
  · rw [if_neg h]; have := ti_le.mp (Int32.not_lt.mp h); omega
theorem ti_nI {x : Int32} {m : Nat} (h0 : 0 ≤ x.toInt) (h1 : x.toInt ≤ (m : Int)) : ∃ n : Nat, n ≤ m ∧ x = nI n := by
  obtain ⟨j, hj, rfl⟩ := nI_of (x := x) (fun h => absurd (ti_lt.mp h) (by rw [ti_0]; omega))
  rw [nI_toInt hj] at h1
  exact ⟨j, by omega, rfl⟩
def sumZ (f : Nat → Int) : Nat → Int
  | 0 => 0
  | n + 1 => sumZ f n + f n
theorem sumZ_ext {f g : Nat → Int} : ∀ {n : Nat}, (∀ k, k < n → f k = g k) → sumZ f n = sumZ g n
  | 0, _ => rfl
  | n + 1, h => by
    show sumZ f n + f n = sumZ g n + g n
    rw [sumZ_ext (fun k hk => h k (by omega)), h n (by omega)]
theorem sumZ_nn {f : Nat → Int} : ∀ {n : Nat}, (∀ k, k < n → 0 ≤ f k) → 0 ≤ sumZ f n
  | 0, _ => Int.le_refl 0
  | n + 1, h => by
    have h1 := sumZ_nn (f := f) (n := n) (fun k hk => h k (by omega))
    have h2 := h n (by omega)
    show 0 ≤ sumZ f n + f n
    omega
theorem sumZ_ge {f : Nat → Int} : ∀ {n : Nat}, (∀ k, k < n → 0 ≤ f k) → ∀ k, k < n → f k ≤ sumZ f n
  | 0, _, k, hk => absurd hk (by omega)
  | n + 1, h, k, hk => by
    have h1 := sumZ_nn (f := f) (n := n) (fun k hk => h k (by omega))
    have h2 := h n (by omega)
    show f k ≤ sumZ f n + f n
    by_cases e : k = n
    · subst e; omega
    · have h3 := sumZ_ge (f := f) (n := n) (fun k hk => h k (by omega)) k (by omega)
      omega
theorem sumZ_le {f : Nat → Int} {M : Int} : ∀ {n : Nat}, (∀ k, k < n → f k ≤ M) → sumZ f n ≤ n * M
  | 0, _ => by show (0 : Int) ≤ ((0 : Nat) : Int) * M; simp
  | n + 1, h => by
    have h1 := sumZ_le (f := f) (M := M) (n := n) (fun k hk => h k (by omega))
    have h2 := h n (by omega)
    show sumZ f n + f n ≤ ((n + 1 : Nat) : Int) * M
    rw [Int.natCast_add, Int.add_mul]
    simp
    omega
theorem sumZ_upd {C : Nat → Int32} {k : Nat} {x : Int32} : ∀ {n : Nat}, sumZ (fun p => (upd C k x p).toInt) n = sumZ (fun p => (C p).toInt) n + (if k < n then x.toInt - (C k).toInt else 0)
  | 0 => by rw [if_neg (by omega)]; rfl
  | n + 1 => by
    have ih := sumZ_upd (C := C) (k := k) (x := x) (n := n)
    show sumZ (fun p => (upd C k x p).toInt) n + (upd C k x n).toInt = sumZ (fun p => (C p).toInt) n + (C n).toInt + _
    rw [ih]
    by_cases e : k = n
    · subst e
      rw [pk_us, if_neg (by omega), if_pos (by omega)]; omega
    · rw [pk_un (fun q => e q.symm)]
      by_cases h : k < n
      · rw [if_pos h, if_pos (by omega)]; omega
      · rw [if_neg h, if_neg (by omega)]; omega
def okD (N : Nat) (D : Nat → Int32) : Prop := ∀ a b, a < N → b < N → 0 ≤ (D (a * 7 + b)).toInt ∧ (D (a * 7 + b)).toInt ≤ 99999
def okC (N : Nat) (C : Nat → Int32) (M : Int) : Prop := (∀ p, p < N → 0 ≤ (C p).toInt) ∧ sumZ (fun p => (C p).toInt) N ≤ M
theorem okC.le {N : Nat} {C : Nat → Int32} {M : Int} (h : okC N C M) {p : Nat} (hp : p < N) : (C p).toInt ≤ M := Int.le_trans (sumZ_ge (f := fun p => (C p).toInt) h.1 p hp) h.2
theorem pbC_ok {N : Nat} {C : Nat → Int32} {M : Int} (h : okC N C M) (hM : M ≤ 1000000) {a b : Nat} (ha : a < N) (hb : b < N) {v : Int32} (h0 : 0 ≤ v.toInt) (h1 : v.toInt ≤ (C a).toInt) : okC N (pbC C a b v) M := by
  have la := h.le ha
  have na := h.1 a ha
  have es : (C a - v).toInt = (C a).toInt - v.toInt := ti_sub (by omega) (by omega)
  have s1 : sumZ (fun p => (upd C a (C a - v) p).toInt) N = sumZ (fun p => (C p).toInt) N - v.toInt := by
    rw [sumZ_upd, if_pos ha, es]; omega
  have n1 : ∀ p, p < N → 0 ≤ (upd C a (C a - v) p).toInt := by
    intro p hp
    by_cases e : p = a
    · subst e; rw [pk_us, es]; omega
    · rw [pk_un e]; exact h.1 p hp
  have h2 := h.2
  have lb : (upd C a (C a - v) b).toInt ≤ sumZ (fun p => (upd C a (C a - v) p).toInt) N := sumZ_ge (f := fun p => (upd C a (C a - v) p).toInt) n1 b hb
  have nb := n1 b hb
  have ea : (upd C a (C a - v) b + v).toInt = (upd C a (C a - v) b).toInt + v.toInt := ti_add (by omega) (by omega)
  refine ⟨fun p hp => ?_, ?_⟩
  · show 0 ≤ (upd (upd C a (C a - v)) b (upd C a (C a - v) b + v) p).toInt
    by_cases e : p = b
    · subst e; rw [pk_us, ea]; omega
    · rw [pk_un e]; exact n1 p hp
  · show sumZ (fun p => (upd (upd C a (C a - v)) b (upd C a (C a - v) b + v) p).toInt) N ≤ M
    rw [sumZ_upd, if_pos hb, ea]; omega
theorem stl_ok {N : Nat} {C D : Nat → Int32} {M : Int} (hN : N ≤ 7) (hC : okC N C M) (hD : okD N D) (hM : M ≤ 1000000) {p : Nat} (hp : p < N) : ∀ {k : Nat}, k ≤ N → okC N (stl p C D k).1 M ∧ okD N (stl p C D k).2.1 ∧ 0 ≤ (stl p C D k).2.2.toInt ∧ (stl p C D k).2.2.toInt ≤ 99999 * k
  | 0, _ => ⟨hC, hD, by show 0 ≤ (nI 0).toInt; decide, by show (nI 0).toInt ≤ _; decide⟩
  | k + 1, hk => by
    obtain ⟨c1, d1, p1, q1⟩ := stl_ok hN hC hD hM hp (k := k) (by omega)
    have dk := d1 p k hp (by omega)
    have ck := c1.1 p hp
    have em := ti_min (x := (stl p C D k).1 p) (y := (stl p C D k).2.1 (p * 7 + k))
    refine ⟨pbC_ok c1 hM hp (by omega) (by omega) (by omega), ?_, ?_⟩
    · intro a b ha hb
      show 0 ≤ (upd (stl p C D k).2.1 (p * 7 + k) ((stl p C D k).2.1 (p * 7 + k) + -(minI ((stl p C D k).1 p) ((stl p C D k).2.1 (p * 7 + k)))) (a * 7 + b)).toInt ∧ (upd (stl p C D k).2.1 (p * 7 + k) ((stl p C D k).2.1 (p * 7 + k) + -(minI ((stl p C D k).1 p) ((stl p C D k).2.1 (p * 7 + k)))) (a * 7 + b)).toInt ≤ 99999
      by_cases e : a * 7 + b = p * 7 + k
      · rw [e, pk_us]
        have en := ti_neg (x := minI ((stl p C D k).1 p) ((stl p C D k).2.1 (p * 7 + k))) (by omega) (by omega)
        rw [ti_add (by omega) (by omega)]
        omega
      · rw [pk_un e]; exact d1 a b ha hb
    · show 0 ≤ ((stl p C D k).2.2 + minI ((stl p C D k).1 p) ((stl p C D k).2.1 (p * 7 + k))).toInt ∧ ((stl p C D k).2.2 + minI ((stl p C D k).1 p) ((stl p C D k).2.1 (p * 7 + k))).toInt ≤ 99999 * ((k + 1 : Nat) : Int)
      rw [ti_add (by omega) (by omega)]
      omega
theorem sumR_ti {f : Nat → Int32} : ∀ {n : Nat}, n ≤ 7 → (∀ k, k < n → 0 ≤ (f k).toInt ∧ (f k).toInt ≤ 99999) → (sumR f n).toInt = sumZ (fun k => (f k).toInt) n ∧ 0 ≤ (sumR f n).toInt ∧ (sumR f n).toInt ≤ 99999 * n
  | 0, _, _ => ⟨by show (nI 0).toInt = 0; decide, by show 0 ≤ (nI 0).toInt; decide, by show (nI 0).toInt ≤ _; decide⟩
  | n + 1, hn, h => by
    obtain ⟨e, h0, h1⟩ := sumR_ti (f := f) (n := n) (by omega) (fun k hk => h k (by omega))
    have hk := h n (by omega)
    show (sumR f n + f n).toInt = sumZ (fun k => (f k).toInt) n + (f n).toInt ∧ 0 ≤ (sumR f n + f n).toInt ∧ (sumR f n + f n).toInt ≤ 99999 * ((n + 1 : Nat) : Int)
    rw [ti_add (by omega) (by omega)]
    omega
theorem dsum_ti {N : Nat} {D : Nat → Int32} (hN : N ≤ 7) (hD : okD N D) {p : Nat} (hp : p < N) : (dsum D N p).toInt = sumZ (fun b => (D (p * 7 + b)).toInt) N ∧ 0 ≤ (dsum D N p).toInt ∧ (dsum D N p).toInt ≤ 699993 := by
  obtain ⟨e, h0, h1⟩ := sumR_ti (f := fun b => D (p * 7 + b)) hN (fun k hk => hD p k hp hk)
  refine ⟨e, h0, ?_⟩
  have h2 : (sumR (fun b => D (p * 7 + b)) N).toInt ≤ 699993 := by omega
  exact h2
theorem dsum_z {N : Nat} {D : Nat → Int32} (hN : N ≤ 7) (hD : okD N D) {p : Nat} (hp : p < N) (h : ¬ 0 < dsum D N p) : dsum D N p = 0 := by
  have h1 := dsum_ti hN hD hp
  have h2 := ti_le.mp (Int32.not_lt.mp h)
  exact Int32.toInt_inj.mp (by rw [ti_0] at h2 ⊢; omega)
theorem dsum_pos {N : Nat} {D : Nat → Int32} (hN : N ≤ 7) (hD : okD N D) {p b : Nat} (hp : p < N) (hb : b < N) (h : 0 < D (p * 7 + b)) : 0 < dsum D N p := by
  have h1 := dsum_ti hN hD hp
  have h2 := sumZ_ge (f := fun b => (D (p * 7 + b)).toInt) (n := N) (fun k hk => (hD p k hp hk).1) b hb
  have h3 := ti_lt.mp h
  apply ti_lt.mpr
  rw [ti_0] at h3 ⊢
  have h4 : (D (p * 7 + b)).toInt ≤ sumZ (fun b => (D (p * 7 + b)).toInt) N := h2
  omega
theorem dsum_ex {N : Nat} {D : Nat → Int32} (hN : N ≤ 7) (hD : okD N D) {p : Nat} (hp : p < N) (h : ∀ b, b < N → ¬ 0 < D (p * 7 + b)) : ¬ 0 < dsum D N p := by
  have h1 := dsum_ti hN hD hp
  intro w
  have h3 := ti_lt.mp w
  rw [ti_0] at h3
  have h2 : sumZ (fun b => (D (p * 7 + b)).toInt) N ≤ N * 0 := sumZ_le (fun b hb => by
    have := ti_le.mp (Int32.not_lt.mp (h b hb))
    rw [ti_0] at this; exact this)
  rw [Int.mul_zero] at h2
  omega
theorem stA_ok {N : Nat} {C D : Nat → Int32} {M : Int} {so : Int32} (hN : N ≤ 7) (hC : okC N C M) (hD : okD N D) (hM : M ≤ 1000000) : ∀ {k : Nat}, k ≤ N → okC N (stA N so C D k).1 M ∧ okD N (stA N so C D k).2.1
  | 0, _ => ⟨hC, hD⟩
  | k + 1, hk => by
    have ih := stA_ok (so := so) hN hC hD hM (k := k) (by omega)
    have s := stl_ok hN ih.1 ih.2 hM (p := k) (by omega) (k := N) (Nat.le_refl N)
    by_cases c : bitI so (nI k) = nI 1
    · have e : stA N so C D (k + 1) = ((stl k (stA N so C D k).1 (stA N so C D k).2.1 N).1, (stl k (stA N so C D k).1 (stA N so C D k).2.1 N).2.1, if 0 < dsum (stl k (stA N so C D k).1 (stA N so C D k).2.1 N).2.1 N k then orI (stA N so C D k).2.2 k else (stA N so C D k).2.2) := if_pos c
      rw [e]; exact ⟨s.1, s.2.1⟩
    · have e : stA N so C D (k + 1) = stA N so C D k := if_neg c
      rw [e]; exact ih
theorem alS_ok {N : Nat} {C D : Nat → Int32} {M : Int} {fa : Int32} (hN : N ≤ 7) (hC : okC N C M) (hD : okD N D) (hM : M ≤ 1000000) : ∀ {k : Nat}, k ≤ N → okC N (alS N C D fa k).1 M ∧ okD N (alS N C D fa k).2.1
  | 0, _ => ⟨hC, hD⟩
  | k + 1, hk => by
    have ih := alS_ok (fa := fa) hN hC hD hM (k := k) (by omega)
    have s := stl_ok hN ih.1 ih.2 hM (p := k) (by omega) (k := N) (Nat.le_refl N)
    exact ⟨s.1, s.2.1⟩
/-- what is drawn -/
theorem drawX_n {s : Int32} (h0 : ¬ s < 0) : ∀ p, ∃ n : Nat, n < 2 ^ 31 ∧ drawX s p = lN n
  | 0 => by
    obtain ⟨j, hj, rfl⟩ := nI_of h0
    exact ⟨j, hj, nI_l hj⟩
  | p + 1 => by
    obtain ⟨n, hn, e⟩ := drawX_n h0 p
    refine ⟨n * 16807 % 2147483647, by omega, ?_⟩
    show drawX s p * 16807 - drawX s p * 16807 / 2147483647 * 2147483647 = _
    have e2 : drawX s p * 16807 = lN (n * 16807) := by
      rw [e]; exact (Int64.ofNat_mul n 16807).symm
    rw [e2]
    exact pk_lRem (a := n * 16807) (b := 2147483647) (by omega) (by omega) (by omega)
theorem drawnI_b {s : Int32} (h0 : ¬ s < 0) (p : Nat) {v : Int32} (h1 : 0 ≤ v.toInt) (h2 : v.toInt ≤ 99) : 0 ≤ (drawnI (drawX s p) v).toInt ∧ (drawnI (drawX s p) v).toInt ≤ 99 := by
  obtain ⟨m, hm, rfl⟩ := ti_nI (m := 99) h1 h2
  obtain ⟨n, hn, e⟩ := drawX_n h0 p
  have e2 : drawnI (drawX s p) (nI m) = nI (n % (m + 1)) := by
    unfold drawnI
    rw [e, nI_add, nI_l (by omega), pk_lRem (by omega) (by omega) (by omega)]
    have hlt : n % (m + 1) < m + 1 := Nat.mod_lt _ (by omega)
    apply Int32.toInt_inj.mp
    rw [nI_toInt (by omega), Int64.toInt_toInt32, pk_lT (by omega)]
    simp only [Int.bmod]; split <;> omega
  have hlt : n % (m + 1) < m + 1 := Nat.mod_lt _ (by omega)
  rw [e2, nI_toInt (by omega)]
  omega
theorem incC_ok {N : Nat} {C I : Nat → Int32} {M : Int} {s : Int32} (h0 : ¬ s < 0) (hN : N ≤ 7) (hC : okC N C M) (hM : M ≤ 900000) (hI : ∀ p, p < N → 0 ≤ (I p).toInt ∧ (I p).toInt ≤ 99) : ∀ {k : Nat}, k ≤ N → okC N (incC s I C k) (M + 99 * k)
  | 0, _ => ⟨hC.1, by have := hC.2; show sumZ (fun p => (C p).toInt) N ≤ _; omega⟩
  | k + 1, hk => by
    have ih := incC_ok h0 hN hC hM hI (k := k) (by omega)
    have hi := hI k (by omega)
    have hv : ∀ v : Int32, v = (if s = 0 then I k else drawnI (drawX s (k + 1)) (I k)) → 0 ≤ v.toInt ∧ v.toInt ≤ 99 := by
      intro v hv
      by_cases e : s = 0
      · rw [if_pos e] at hv; rw [hv]; exact hi
      · rw [if_neg e] at hv; rw [hv]; exact drawnI_b h0 _ hi.1 hi.2
    have hb := hv _ rfl
    have lk := ih.le (p := k) (by omega)
    have nk := ih.1 k (by omega)
    have ea : (incC s I C k k + (if s = 0 then I k else drawnI (drawX s (k + 1)) (I k))).toInt = (incC s I C k k).toInt + (if s = 0 then I k else drawnI (drawX s (k + 1)) (I k)).toInt := ti_add (by omega) (by omega)
    refine ⟨fun p hp => ?_, ?_⟩
    · show 0 ≤ (upd (incC s I C k) k (incC s I C k k + (if s = 0 then I k else drawnI (drawX s (k + 1)) (I k))) p).toInt
      by_cases e : p = k
      · subst e; rw [pk_us, ea]; omega
      · rw [pk_un e]; exact ih.1 p hp
    · show sumZ (fun p => (upd (incC s I C k) k (incC s I C k k + (if s = 0 then I k else drawnI (drawX s (k + 1)) (I k))) p).toInt) N ≤ _
      rw [sumZ_upd, if_pos (by omega), ea]
      have := ih.2
      omega
/-- a town that stands -/
def okT (d : TS) : Prop := 1 ≤ sN d ∧ sN d ≤ 7 ∧ 1 ≤ sU d ∧ sU d ≤ 20 ∧ sR d ≤ 20 ∧ sQ d ≤ 999 ∧ okC (sN d) (sC d) (7000 + 700 * sQ d) ∧ okD (sN d) (sD d) ∧ (∀ p, p < 7 → 0 ≤ (sI d p).toInt ∧ (sI d p).toInt ≤ 99) ∧ (∀ p, p < sN d → okP d p)
theorem okT.inc {d : TS} (h : okT d) : ∀ p, p < 7 → 0 ≤ sI d p ∧ ¬ (sI d p + nI 1).toInt64 = 0 := by
  intro p hp
  obtain ⟨h0, h1⟩ := h.2.2.2.2.2.2.2.2.1 p hp
  obtain ⟨n, hn, e⟩ := ti_nI (m := 99) h0 h1
  rw [e]
  refine ⟨nI_pos' (by omega), ?_⟩
  rw [nI_add, nI_l (by omega)]
  intro w
  have := (pk_lEQ (a := n + 1) (b := 0) (by omega) (by omega)).mp w
  omega
theorem okT.qCD {d : TS} (h : okT d) {s : Int32} (h0 : ¬ s < 0) {k : Nat} (hk : k ≤ sN d) : okC (sN d) (qC d s k) (7000 + 700 * sQ d + 99 * sN d) ∧ okD (sN d) (qD d s k) := by
  obtain ⟨hn, hN, hu, hu2, hr, hq, hC, hD, hI, hP⟩ := h
  have h1 := incC_ok h0 hN hC (by omega) (fun p hp => hI p (by omega)) (Nat.le_refl (sN d))
  exact alS_ok hN h1 hD (by omega) hk
theorem okT.paid {d : TS} (h : okT d) {s : Int32} (h0 : ¬ s < 0) : ∀ q, q < sN d → 0 ≤ qPd d s q := by
  intro q hq
  have k := h.qCD h0 (k := q) (by omega)
  obtain ⟨hn, hN, hu, hu2, hr, hQ, hC, hD, hI, hP⟩ := h
  have s := stl_ok hN k.1 k.2 (by omega) hq (Nat.le_refl (sN d))
  exact ti_le.mpr (by rw [ti_0]; exact s.2.2.1)
theorem grow_b {x : Int32} {r : Nat} (h0 : 0 ≤ x.toInt) (h1 : x.toInt ≤ 99999) (hr : r ≤ 20) : 0 ≤ (minI (x + x * nI r / nI 100) 99999).toInt ∧ (minI (x + x * nI r / nI 100) 99999).toInt ≤ 99999 := by
  obtain ⟨n, hn, rfl⟩ := ti_nI (m := 99999) h0 h1
  have hm : n * r ≤ 99999 * 20 := Nat.mul_le_mul hn hr
  rw [pk_mul, pk_div (by omega) (by omega) (by omega), nI_add, ti_min, show (99999 : Int32).toInt = 99999 from by decide]
  have hd : n * r / 100 ≤ n * r := Nat.div_le_self _ _
  rw [nI_toInt (by omega)]
  omega
theorem okT.quarter {d : TS} (h : okT d) {s : Int32} (h0 : ¬ s < 0) (hq : sQ d < 999) : okT (quT d s) := by
  have k := h.qCD h0 (k := sN d) (Nat.le_refl _)
  obtain ⟨hn, hN, hu, hu2, hr, hQ, hC, hD, hI, hP⟩ := h
  refine ⟨hn, hN, hu, hu2, hr, by show sQ d + 1 ≤ 999; omega, ⟨k.1.1, ?_⟩, ?_, hI, ?_⟩
  · have h2 := k.1.2
    show sumZ (fun p => (qC d s (sN d) p).toInt) (sN d) ≤ 7000 + 700 * ((sQ d + 1 : Nat) : Int)
    omega
  · intro a b ha hb
    have hd := k.2 a b ha hb
    show 0 ≤ (qV d s (a * 7 + b)).toInt ∧ (qV d s (a * 7 + b)).toInt ≤ 99999
    by_cases c : nI (sQ d + 1) - nI (sQ d + 1) / nI 9 * nI 9 = 0
    · have hab : a * 7 + b < 49 := by have : sN d ≤ 7 := hN; have : a < sN d := ha; have : b < sN d := hb; omega
      rw [qV_fg c hab]
      split
      · decide
      · exact hd
    · have hab : a * 7 + b < 49 := by have : sN d ≤ 7 := hN; have : a < sN d := ha; have : b < sN d := hb; omega
      rw [qV_gr c hab]
      exact grow_b hd.1 hd.2 hr
  · intro p hp
    refine Or.inl ?_
    show fil (-1) (sP d) (sN d) p = -1
    rw [fil_at, if_pos (show p < sN d from hp)]
theorem okT.loan {d : TS} (h : okT d) {p q : Nat} (hp : p < sN d) (hq : q < sN d) {n : Int32} (h1 : ¬ n < nI 1) (h2 : n ≤ nI 999) (h3 : ¬ sC d q < n) (h4 : sD d (p * 7 + q) + n ≤ 99999) : okT (pbC (sC d) q p n, sI d, sP d, upd (sD d) (p * 7 + q) (sD d (p * 7 + q) + n), sN d, sU d, sR d, sQ d, sH d, sF d) := by
  obtain ⟨hn, hN, hu, hu2, hr, hQ, hC, hD, hI, hP⟩ := h
  have e1 := ti_le.mp (Int32.not_lt.mp h1)
  have e2 := ti_le.mp h2
  have e3 := ti_le.mp (Int32.not_lt.mp h3)
  have e4 := ti_le.mp h4
  rw [show (nI 1).toInt = 1 from by decide] at e1
  rw [show (nI 999).toInt = 999 from by decide] at e2
  rw [show (99999 : Int32).toInt = 99999 from by decide] at e4
  have hd := hD p q hp hq
  rw [ti_add (by omega) (by omega)] at e4
  refine ⟨hn, hN, hu, hu2, hr, hQ, pbC_ok hC (by omega) hq hp (by omega) e3, ?_, hI, hP⟩
  intro a b ha hb
  show 0 ≤ (upd (sD d) (p * 7 + q) (sD d (p * 7 + q) + n) (a * 7 + b)).toInt ∧ (upd (sD d) (p * 7 + q) (sD d (p * 7 + q) + n) (a * 7 + b)).toInt ≤ 99999
  by_cases e : a * 7 + b = p * 7 + q
  · rw [e, pk_us, ti_add (by omega) (by omega)]; omega
  · rw [pk_un e]; exact hD a b ha hb
theorem okT.pay {d : TS} (h : okT d) {p q : Nat} (hp : p < sN d) (hq : q < sN d) {n : Int32} (h1 : ¬ n < nI 1) (h3 : ¬ sD d (p * 7 + q) < n) (h4 : ¬ sC d p < n) : okT (pbC (sC d) p q n, sI d, sP d, upd (sD d) (p * 7 + q) (sD d (p * 7 + q) + -n), sN d, sU d, sR d, sQ d, sH d, sF d) := by
  obtain ⟨hn, hN, hu, hu2, hr, hQ, hC, hD, hI, hP⟩ := h
  have e1 := ti_le.mp (Int32.not_lt.mp h1)
  have e3 := ti_le.mp (Int32.not_lt.mp h3)
  have e4 := ti_le.mp (Int32.not_lt.mp h4)
  rw [show (nI 1).toInt = 1 from by decide] at e1
  have hd := hD p q hp hq
  refine ⟨hn, hN, hu, hu2, hr, hQ, pbC_ok hC (by omega) hp hq (by omega) e4, ?_, hI, hP⟩
  intro a b ha hb
  show 0 ≤ (upd (sD d) (p * 7 + q) (sD d (p * 7 + q) + -n) (a * 7 + b)).toInt ∧ (upd (sD d) (p * 7 + q) (sD d (p * 7 + q) + -n) (a * 7 + b)).toInt ≤ 99999
  by_cases e : a * 7 + b = p * 7 + q
  · have en := ti_neg (x := n) (by omega) (by omega)
    rw [e, pk_us, ti_add (by omega) (by omega)]; omega
  · rw [pk_un e]; exact hD a b ha hb
theorem okT.paint {d : TS} (h : okT d) {p v : Nat} (hv : v ≤ 9) : okT (sC d, sI d, upd (sP d) p (nI v), sD d, sN d, sU d, sR d, sQ d, sH d, sF d) := by
  obtain ⟨hn, hN, hu, hu2, hr, hQ, hC, hD, hI, hP⟩ := h
  refine ⟨hn, hN, hu, hu2, hr, hQ, hC, hD, hI, ?_⟩
  intro q hq
  by_cases e : q = p
  · subst e; exact Or.inr ⟨v, hv, pk_us⟩
  · rcases hP q hq with w | ⟨x, hx, w⟩
    · exact Or.inl ((pk_un e).trans w)
    · exact Or.inr ⟨x, hx, (pk_un e).trans w⟩
theorem okT.hedge {d : TS} (h : okT d) (x : Int32) : okT (sC d, sI d, sP d, sD d, sN d, sU d, sR d, sQ d, x, sF d) := h

/-! BOTH STATES ARE ONE -/
def rowR (rl rn : Nat → Int32) (ri : Nat → Nat → Int32) (a5 a6 a7 : Nat → Int32) : Prop := ∀ k, k < 8 → (rl k = -1 ∧ a5 k = -1) ∨ (∃ la m, la < 3 ∧ m ≤ 40 ∧ rl k = nI la ∧ rn k = nI m ∧ a5 k = nI m ∧ a6 k = nI la ∧ ∀ j, j < m → ri k j = a7 (40 * k + j))
def actR (nx kp : Nat) (da : Nat → TS) (a4 : Nat → Int32) : Prop := nx < 24 ∧ kp ≤ 24 ∧ ∀ i, i < kp → okT (da ((nx + 23 - i) % 24)) ∧ ∀ j, j < 96 → a4 (96 * (kp - 1 - i) + j) = encT (da ((nx + 23 - i) % 24)) j
def imgR (di : Nat → TS) (a2 a3 : Nat → Int32) : Prop := ∀ k, k < 2 → (sN (di k) = 0 ∧ a3 k = nI 0) ∨ (okT (di k) ∧ a3 k = nI 1 ∧ ∀ j, j < 96 → a2 (96 * k + j) = encT (di k) j)
def twR (d : TS) : Prop := okT d ∨ (sN d = 0 ∧ sQ d = 0)
def tapR (tp a8 : Nat → Int32) : Prop := bOK tp ∧ ∀ j, a8 j = ubI (tp j)
def IR (rl rn : Nat → Int32) (ri : Nat → Nat → Int32) (tp : Nat → Int32) (len : Nat) (r : RS) (dd d : TS) (nx kp : Nat) (da di : Nat → TS) (tr : Nat) (a2 a3 a4 a5 a6 a7 a8 : Nat → Int32) : Prop :=
  rowR rl rn ri a5 a6 a7 ∧ tapR tp a8 ∧ len ≤ 400 ∧ sOK r ∧ incOK dd ∧ twR d ∧ actR nx kp da a4 ∧ imgR di a2 a3 ∧ tr ≤ 16
def IX (σ : AH) (lf fd : Int32) (rl rn : Nat → Int32) (ri : Nat → Nat → Int32) (tp : Nat → Int32) (len : Nat) (r : RS) (dd d df : TS) (nx kp : Nat) (da di : Nat → TS) (tr : Nat) (bo ne a1 a2 a3 a4 a5 a6 a7 a8 a9 : Nat → Int32) (i4 i5 i6 i10 : Int32) : Prop := (XR σ lf fd rl rn ri tp (rdF len r) dd d df nx kp da di tr bo ne) ∧ (mH σ (encG d) a1 a2 a3 a4 a5 a6 a7 a8 a9 ne bo (nI kp) fd lf (nI len) i4 i5 i6 r.2.2.2.1 r.2.2.2.2.2 r.2.2.2.2.1 i10 (nI tr)) = σ ∧ (IR rl rn ri tp len r dd d nx kp da di tr a2 a3 a4 a5 a6 a7 a8)
def IV (σ : AH) : Prop := ∃ (lf fd : Int32) (rl rn : Nat → Int32) (ri : Nat → Nat → Int32) (tp : Nat → Int32) (len : Nat) (r : RS) (dd d df : TS) (nx kp : Nat) (da di : Nat → TS) (tr : Nat) (bo ne a1 a2 a3 a4 a5 a6 a7 a8 a9 : Nat → Int32) (i4 i5 i6 i10 : Int32), (IX σ lf fd rl rn ri tp len r dd d df nx kp da di tr bo ne a1 a2 a3 a4 a5 a6 a7 a8 a9 i4 i5 i6 i10)
def Bst (G : GG) (z : Nat) (y5 : MethodName) (c5 : ByteArray) (n5 f5 : Nat) (y6 : MethodName) (c6 : ByteArray) (n6 f6 : Nat) (As : List Value) (σ : AH) : Prop :=
  ∃ (v : Int32) (σ1 σ2 : AH), Ct G y5 c5 n5 (some .int) f5 0 0 z σ (.ref 0 :: As) (some (.int v)) z σ1 ∧ Ct G y6 c6 n6 (some .int) f6 0 0 z σ1 (.ref 171 :: As) (some (.int v)) z σ2 ∧ IV σ2 ∧ ∃ fs, σ1 171 = some (.inr (.inr (6, fs)))
theorem mH_mH {σ : AH} {a0 a1 a2 a3 a4 a5 a6 a7 a8 a9 a10 a11 : Nat → Int32} {i0 i1 i2 i3 i4 i5 i6 i7 i8 i9 i10 i11 : Int32} {b0 b1 b2 b3 b4 b5 b6 b7 b8 b9 b10 b11 : Nat → Int32} {j0 j1 j2 j3 j4 j5 j6 j7 j8 j9 j10 j11 : Int32} : mH (mH σ a0 a1 a2 a3 a4 a5 a6 a7 a8 a9 a10 a11 i0 i1 i2 i3 i4 i5 i6 i7 i8 i9 i10 i11) b0 b1 b2 b3 b4 b5 b6 b7 b8 b9 b10 b11 j0 j1 j2 j3 j4 j5 j6 j7 j8 j9 j10 j11 = mH σ b0 b1 b2 b3 b4 b5 b6 b7 b8 b9 b10 b11 j0 j1 j2 j3 j4 j5 j6 j7 j8 j9 j10 j11 := by
  funext k
  by_cases h : k < 171 ∨ 183 < k
  · rw [mH_x h, mH_x h, mH_x h]
  · rcases (show k = 171 ∨ k = 172 ∨ k = 173 ∨ k = 174 ∨ k = 175 ∨ k = 176 ∨ k = 177 ∨ k = 178 ∨ k = 179 ∨ k = 180 ∨ k = 181 ∨ k = 182 ∨ k = 183 by omega) with h1 | h1 | h1 | h1 | h1 | h1 | h1 | h1 | h1 | h1 | h1 | h1 | h1 <;> (subst h1; rfl)
theorem mH_keep {σ σ1 : AH} {a0 a1 a2 a3 a4 a5 a6 a7 a8 a9 a10 a11 : Nat → Int32} {i0 i1 i2 i3 i4 i5 i6 i7 i8 i9 i10 i11 : Int32} (M : mH σ a0 a1 a2 a3 a4 a5 a6 a7 a8 a9 a10 a11 i0 i1 i2 i3 i4 i5 i6 i7 i8 i9 i10 i11 = σ) (hk : ∀ k, 171 ≤ k → k ≤ 183 → σ1 k = σ k) : mH σ1 a0 a1 a2 a3 a4 a5 a6 a7 a8 a9 a10 a11 i0 i1 i2 i3 i4 i5 i6 i7 i8 i9 i10 i11 = σ1 := by
  funext k
  by_cases h : k < 171 ∨ 183 < k
  · rw [mH_x h]
  · rw [hk k (by omega) (by omega), ← M]
    rcases (show k = 171 ∨ k = 172 ∨ k = 173 ∨ k = 174 ∨ k = 175 ∨ k = 176 ∨ k = 177 ∨ k = 178 ∨ k = 179 ∨ k = 180 ∨ k = 181 ∨ k = 182 ∨ k = 183 by omega) with h1 | h1 | h1 | h1 | h1 | h1 | h1 | h1 | h1 | h1 | h1 | h1 | h1 <;> (subst h1; rfl)
section ST
variable {G : GG} {z : Nat} {y5 : MethodName} {c5 : ByteArray} {n5 f5 : Nat} {y6 : MethodName} {c6 : ByteArray} {n6 f6 : Nat} {As : List Value} {σ : AH} {lf fd : Int32} {rl rn : Nat → Int32} {ri : Nat → Nat → Int32} {tp : Nat → Int32} {len : Nat} {r : RS} {dd d df : TS} {nx kp : Nat} {da di : Nat → TS} {tr : Nat} {bo ne a1 a2 a3 a4 a5 a6 a7 a8 a9 : Nat → Int32} {i4 i5 i6 i10 : Int32}
theorem Bst_mk (H : (IX σ lf fd rl rn ri tp len r dd d df nx kp da di tr bo ne a1 a2 a3 a4 a5 a6 a7 a8 a9 i4 i5 i6 i10)) {v : Int32} (σ1 : AH) (lf' fd' : Int32) (rl' rn' : Nat → Int32) (ri' : Nat → Nat → Int32) (tp' : Nat → Int32) (len' : Nat) (r' : RS) (dd' d' df' : TS) (nx' kp' : Nat) (da' di' : Nat → TS) (tr' : Nat) (bo' ne' a1' a2' a3' a4' a5' a6' a7' a8' a9' : Nat → Int32) (i4' i5' i6' i10' : Int32) (h5 : Ct G y5 c5 n5 (some .int) f5 0 0 z σ (.ref 0 :: As) (some (.int v)) z σ1) (hk : ∀ k, 171 ≤ k → k ≤ 183 → σ1 k = σ k) (X1 : (XR σ1 (lf') (fd') (rl') (rn') (ri') (tp') (rdF (len') (r')) (dd') (d') (df') (nx') (kp') (da') (di') (tr') (bo') (ne'))) (R : (IR (rl') (rn') (ri') (tp') (len') (r') (dd') (d') (nx') (kp') (da') (di') (tr') (a2') (a3') (a4') (a5') (a6') (a7') (a8'))) (h6 : Ct G y6 c6 n6 (some .int) f6 0 0 z (mH σ1 (encG d) a1 a2 a3 a4 a5 a6 a7 a8 a9 ne bo (nI kp) fd lf (nI len) i4 i5 i6 r.2.2.2.1 r.2.2.2.2.2 r.2.2.2.2.1 i10 (nI tr)) (.ref 171 :: As) (some (.int v)) z (mH σ1 (encG (d')) (a1') (a2') (a3') (a4') (a5') (a6') (a7') (a8') (a9') (ne') (bo') (nI (kp')) (fd') (lf') (nI (len')) (i4') (i5') (i6') (r').2.2.2.1 (r').2.2.2.2.2 (r').2.2.2.2.1 (i10') (nI (tr')))) : Bst G z y5 c5 n5 f5 y6 c6 n6 f6 As σ := by
  have M1 := mH_keep H.2.1 hk
  rw [M1] at h6
  refine ⟨v, σ1, _, h5, h6, ⟨lf', fd', rl', rn', ri', tp', len', r', dd', d', df', nx', kp', da', di', tr', bo', ne', a1', a2', a3', a4', a5', a6', a7', a8', a9', i4', i5', i6', i10', ?_, mH_mH, R⟩, ?_⟩
  · exact X1.mod (fun k h => mH_x (Or.inl h))
  · rw [← M1]; exact ⟨_, mH_o⟩
theorem Bst_same (H : (IX σ lf fd rl rn ri tp len r dd d df nx kp da di tr bo ne a1 a2 a3 a4 a5 a6 a7 a8 a9 i4 i5 i6 i10)) {v : Int32} (h5 : Ct G y5 c5 n5 (some .int) f5 0 0 z σ (.ref 0 :: As) (some (.int v)) z σ) (h6 : Ct G y6 c6 n6 (some .int) f6 0 0 z (mH σ (encG d) a1 a2 a3 a4 a5 a6 a7 a8 a9 ne bo (nI kp) fd lf (nI len) i4 i5 i6 r.2.2.2.1 r.2.2.2.2.2 r.2.2.2.2.1 i10 (nI tr)) (.ref 171 :: As) (some (.int v)) z (mH σ (encG d) a1 a2 a3 a4 a5 a6 a7 a8 a9 ne bo (nI kp) fd lf (nI len) i4 i5 i6 r.2.2.2.1 r.2.2.2.2.2 r.2.2.2.2.1 i10 (nI tr))) : Bst G z y5 c5 n5 f5 y6 c6 n6 f6 As σ :=
  Bst_mk H σ lf fd rl rn ri tp len r dd d df nx kp da di tr bo ne a1 a2 a3 a4 a5 a6 a7 a8 a9 i4 i5 i6 i10 h5 (fun _ _ _ => rfl) H.1 H.2.2 h6
theorem Bst_find (H : (IX σ lf fd rl rn ri tp len r dd d df nx kp da di tr bo ne a1 a2 a3 a4 a5 a6 a7 a8 a9 i4 i5 i6 i10)) {v : Int32} (x : Int32) (h5 : Ct G y5 c5 n5 (some .int) f5 0 0 z σ (.ref 0 :: As) (some (.int v)) z (ups σ 0 (xO lf x))) (h6 : Ct G y6 c6 n6 (some .int) f6 0 0 z (mH (ups σ 0 (xO lf x)) (encG d) a1 a2 a3 a4 a5 a6 a7 a8 a9 ne bo (nI kp) fd lf (nI len) i4 i5 i6 r.2.2.2.1 r.2.2.2.2.2 r.2.2.2.2.1 i10 (nI tr)) (.ref 171 :: As) (some (.int v)) z (mH (ups σ 0 (xO lf x)) (encG d) a1 a2 a3 a4 a5 a6 a7 a8 a9 ne bo (nI kp) x lf (nI len) i4 i5 i6 r.2.2.2.1 r.2.2.2.2.2 r.2.2.2.2.1 i10 (nI tr))) : Bst G z y5 c5 n5 f5 y6 c6 n6 f6 As σ :=
  Bst_mk H (ups σ 0 (xO lf x)) lf x rl rn ri tp len r dd d df nx kp da di tr bo ne a1 a2 a3 a4 a5 a6 a7 a8 a9 i4 i5 i6 i10 h5 (fun k h1 h2 => ups_x (by omega)) (H.1.obj lf x) H.2.2 h6
end ST
/-! what the relations give -/
theorem rng_c (i n : Int32) {m : Nat} (hm : m ≤ 40) : rngI i n (nI m) = nI 0 ∨ ∃ j q, i = nI j ∧ n = nI q ∧ j + q ≤ m ∧ rngI i n (nI m) = nI 1 := by
  unfold rngI
  by_cases h1 : i < 0
  · rw [if_pos h1]; exact Or.inl rfl
  · by_cases h2 : n < 0
    · rw [if_neg h1, if_pos h2]; exact Or.inl rfl
    · by_cases h3 : nI m - n < i
      · rw [if_neg h1, if_neg h2, if_pos h3]; exact Or.inl rfl
      · obtain ⟨j, hj, rfl⟩ := nI_of h1
        obtain ⟨q, hq, rfl⟩ := nI_of h2
        refine Or.inr ⟨j, q, rfl, rfl, ?_, by rw [if_neg h1, if_neg h2, if_neg h3]⟩
        have h4 := ti_le.mp (Int32.not_lt.mp h3)
        have e1 := nI_toInt hj
        have e2 := nI_toInt hq
        have e3 := nI_toInt (show m < 2 ^ 31 by omega)
        rw [ti_sub (by omega) (by omega)] at h4
        omega
theorem nr_c (x : Int32) : (¬ nrI x = 0) ∨ ∃ k, k < 8 ∧ x = nI k := by
  rcases pk_ix x (n := 8) (by decide) with h | h | ⟨j, hj, e⟩
  · left; unfold nrI; rw [if_pos h]; decide
  · left; unfold nrI
    rw [if_neg (Int32.not_lt.mpr (Int32.le_trans (nI_pos' (n := 8) (by decide)) h)), if_neg (Int32.not_lt.mpr h)]; decide
  · exact Or.inr ⟨j, hj, e⟩
theorem np_c (x : Int32) {N : Nat} (hN : N ≤ 7) : (¬ npI x N = 0) ∨ ∃ p, p < N ∧ x = nI p := by
  rcases pk_ix x (n := N) (by omega) with h | h | ⟨j, hj, e⟩
  · left; unfold npI; rw [if_pos h]; decide
  · left; unfold npI
    rw [if_neg (Int32.not_lt.mpr (Int32.le_trans (nI_pos' (n := N) (by omega)) h)), if_neg (Int32.not_lt.mpr h)]; decide
  · exact Or.inr ⟨j, hj, e⟩
theorem nq_c (x y : Int32) {N : Nat} (hN : N ≤ 7) : (¬ nqI x y N = 0) ∨ ∃ p q, p < N ∧ q < N ∧ p ≠ q ∧ x = nI p ∧ y = nI q := by
  rcases np_c x hN with h | ⟨p, hp, e1⟩
  · left; unfold nqI; rw [if_neg h]; decide
  · rcases np_c y hN with h | ⟨q, hq, e2⟩
    · left; unfold nqI; rw [if_pos (by rw [e1]; exact npI_k hp hN), if_neg h]; decide
    · by_cases e : p = q
      · left; unfold nqI
        rw [if_pos (by rw [e1]; exact npI_k hp hN), if_pos (by rw [e2]; exact npI_k hq hN), if_pos (by rw [e1, e2, e])]; decide
      · exact Or.inr ⟨p, q, hp, hq, e, e1, e2⟩
theorem in_c (x : Int32) {lo hi : Nat} (hlo : lo ≤ hi) (hhi : hi < 2 ^ 31 - 1) : x < nI lo ∨ nI hi < x ∨ ∃ j, lo ≤ j ∧ j ≤ hi ∧ x = nI j := by
  by_cases h1 : x < nI lo
  · exact Or.inl h1
  · by_cases h2 : nI hi < x
    · exact Or.inr (Or.inl h2)
    · have e1 := ti_le.mp (Int32.not_lt.mp h1)
      have e2 := ti_le.mp (Int32.not_lt.mp h2)
      rw [nI_toInt (by omega)] at e1 e2
      obtain ⟨j, hj, rfl⟩ := ti_nI (x := x) (m := hi) (by omega) e2
      rw [nI_toInt (by omega)] at e1
      exact Or.inr (Or.inr ⟨j, by omega, hj, rfl⟩)
theorem twR.n {d : TS} (h : twR d) : sN d ≤ 7 := by
  rcases h with h | h
  · exact h.2.1
  · omega
theorem twR.c {d : TS} (h : twR d) : okT d ∨ (sN d = 0 ∧ encG d = (fun _ => nI 0) ∧ sQ d = 0) := by
  rcases h with h | h
  · exact Or.inl h
  · exact Or.inr ⟨h.1, by unfold encG; rw [if_pos h.1], h.2⟩
theorem okT.g {d : TS} (h : okT d) : encG d = encT d := encG_T (by have := h.1; omega)
theorem okT.u {d : TS} (h : okT d) : ¬ encG d 0 = 0 := by
  rw [h.g, enc_u]
  have := h.2.2.1
  have := h.2.2.2.1
  exact nI_ne0 (by omega) (by omega)
theorem okT.z {d : TS} (h : okT d) {p : Nat} (hp : p < sN d) : ¬ 0 < dsum (sD d) (sN d) p → dsum (sD d) (sN d) p = 0 := dsum_z h.2.1 h.2.2.2.2.2.2.2.1 hp
theorem okT.p {d : TS} (h : okT d) : ∀ p, p < sN d → okP d p := h.2.2.2.2.2.2.2.2.2
theorem actR.keep {nx kp : Nat} {da : Nat → TS} {a4 : Nat → Int32} {d : TS} (h : actR nx kp da a4) (hd : okT d) : actR (nxt nx) (min (kp + 1) 24) (va_up da nx d) (remW kp a4 (encT d)) := by
  obtain ⟨h1, h2, h3⟩ := h
  have hn : nxt nx = (nx + 1) % 24 := by unfold nxt; split <;> omega
  refine ⟨by omega, by omega, fun i hi => ?_⟩
  rw [hn]
  by_cases e : i = 0
  · subst e
    rw [show ((nx + 1) % 24 + 23 - 0) % 24 = nx by omega, va_up_a]
    refine ⟨hd, fun j hj => ?_⟩
    unfold remW
    by_cases hk : kp = 24
    · rw [if_pos hk, pk_cpy_in (by omega) (by omega)]
      exact congrArg (encT d) (by omega)
    · rw [if_neg hk, pk_cpy_in (by omega) (by omega)]
      exact congrArg (encT d) (by omega)
  · have hs : ((nx + 1) % 24 + 23 - i) % 24 = (nx + 23 - (i - 1)) % 24 := by omega
    rw [hs, va_up_x (by omega)]
    obtain ⟨k1, k2⟩ := h3 (i - 1) (by omega)
    refine ⟨k1, fun j hj => ?_⟩
    rw [← k2 j hj]
    unfold remW
    by_cases hk : kp = 24
    · rw [if_pos hk, pk_cpy_out (by omega), pk_cpy_in (by omega) (by omega)]
      exact congrArg a4 (by omega)
    · rw [if_neg hk, pk_cpy_out (by omega)]
      exact congrArg a4 (by omega)
theorem actR.undo {nx kp : Nat} {da : Nat → TS} {a4 : Nat → Int32} (h : actR nx kp da a4) (hk : 1 ≤ kp) : okT (da (prv nx)) ∧ (∀ j, j < 96 → a4 (96 * (kp - 1) + j) = encT (da (prv nx)) j) ∧ actR (prv nx) (kp - 1) da a4 := by
  obtain ⟨h1, h2, h3⟩ := h
  have hp : prv nx = (nx + 23) % 24 := by unfold prv; split <;> omega
  obtain ⟨k1, k2⟩ := h3 0 (by omega)
  rw [Nat.sub_zero] at k1 k2
  rw [hp]
  refine ⟨k1, fun j hj => by have := k2 j hj; rw [Nat.sub_zero] at this; exact this, by omega, by omega, fun i hi => ?_⟩
  rw [show ((nx + 23) % 24 + 23 - i) % 24 = (nx + 23 - (i + 1)) % 24 by omega, show kp - 1 - 1 - i = kp - 1 - (i + 1) by omega]
  exact h3 (i + 1) (by omega)
theorem actR.none {da : Nat → TS} {a4 : Nat → Int32} : actR 0 0 da a4 := ⟨by decide, by decide, fun i hi => absurd hi (Nat.not_lt_zero i)⟩
theorem fstN_ext {P Q : Nat → Bool} : ∀ n k, (∀ j, k ≤ j → j < k + n → P j = Q j) → fstN P n k = fstN Q n k
  | 0, _, _ => rfl
  | n + 1, k, h => by
    show (if P k = true then k else fstN P n (k + 1)) = if Q k = true then k else fstN Q n (k + 1)
    rw [h k (by omega) (by omega), fstN_ext n (k + 1) (fun j h1 h2 => h j (by omega) (by omega))]
theorem shd_b {d : TS} (h : okT d) {p : Nat} (hp : p < sN d) (hs : ¬ shd (sD d) (sN d) (sU d) p < nI 1) : 0 ≤ (needI (sD d) (sN d) (sU d) p).toInt ∧ (needI (sD d) (sN d) (sU d) p).toInt ≤ 700000 := by
  have b := dsum_ti h.2.1 h.2.2.2.2.2.2.2.1 hp
  obtain ⟨o, ho, eo⟩ := ti_nI (x := dsum (sD d) (sN d) p) (m := 699993) b.2.1 b.2.2
  have hu1 := h.2.2.1
  have hu2 := h.2.2.2.1
  have hdl : o / sU d ≤ o := Nat.div_le_self _ _
  have es : shd (sD d) (sN d) (sU d) p = nI (min (o / sU d) 9) := by
    unfold shd
    rw [eo, pk_div (by omega) (by omega) (by omega)]
    unfold minI
    by_cases q : nI 9 < nI (o / sU d)
    · have := (nI_ltI (by omega) (by omega)).mp q
      rw [if_pos q, show min (o / sU d) 9 = 9 by omega]
    · have := mt (nI_ltI (a := 9) (b := o / sU d) (by omega) (by omega)).mpr q
      rw [if_neg q, show min (o / sU d) 9 = o / sU d by omega]
  have hs1 : 1 ≤ min (o / sU d) 9 := by
    rw [es] at hs
    have := mt (nI_ltI (a := min (o / sU d) 9) (b := 1) (by omega) (by omega)).mpr hs
    omega
  have hm : min (o / sU d) 9 * sU d ≤ o := Nat.le_trans (Nat.mul_le_mul_right _ (Nat.min_le_left _ _)) (Nat.div_mul_le_self _ _)
  have hm1 : 1 ≤ min (o / sU d) 9 * sU d := Nat.le_trans (by omega) (Nat.mul_le_mul hs1 hu1)
  unfold needI
  rw [es, eo, pk_mul, pk_sub hm1, pk_sub (by omega), nI_toInt (by omega)]
  omega
theorem insL_b {v : Int32} {B : Int} : ∀ (a : Nat) (ne : Nat → Int32), (∀ k, k < a → 0 ≤ (ne k).toInt ∧ (ne k).toInt ≤ B) → (insL v a ne).2 ≤ a ∧ ∀ k, k < a + 1 → k ≠ (insL v a ne).2 → 0 ≤ ((insL v a ne).1 k).toInt ∧ ((insL v a ne).1 k).toInt ≤ B
  | 0, ne, _ => ⟨Nat.le_refl 0, fun k h1 h2 => absurd (show k = 0 by omega) h2⟩
  | a + 1, ne, h => by
    unfold insL
    by_cases q : ne a ≤ v
    · rw [if_pos q]
      exact ⟨Nat.le_refl _, fun k h1 h2 => h k (by have h3 : k ≠ a + 1 := h2; omega)⟩
    · rw [if_neg q]
      have h' : ∀ k, k < a → 0 ≤ (upd ne (a + 1) (ne a) k).toInt ∧ (upd ne (a + 1) (ne a) k).toInt ≤ B := fun k hk => by rw [pk_un (by omega)]; exact h k (by omega)
      obtain ⟨i1, i2⟩ := insL_b (v := v) a (upd ne (a + 1) (ne a)) h'
      refine ⟨by omega, fun k h1 h2 => ?_⟩
      by_cases e : k = a + 1
      · subst e
        have keep : ∀ (b : Nat) (f : Nat → Int32) (k : Nat), b < k → (insL v b f).1 k = f k := by
          intro b
          induction b with
          | zero => intro f k _; rfl
          | succ b ih =>
            intro f k hk
            unfold insL
            split
            · rfl
            · rw [ih _ k (by omega), pk_un (by omega)]
        rw [keep a _ (a + 1) (by omega), pk_us]
        exact h a (by omega)
      · exact i2 k (by omega) h2
theorem gat_b {d : TS} (h : okT d) {ne : Nat → Int32} : ∀ p, p ≤ sN d → ∀ k, k < (gat (sD d) (sN d) (sU d) ne p).2 → 0 ≤ ((gat (sD d) (sN d) (sU d) ne p).1 k).toInt ∧ ((gat (sD d) (sN d) (sU d) ne p).1 k).toInt ≤ 700000
  | 0, _, k, hk => absurd hk (Nat.not_lt_zero k)
  | p + 1, hp, k, hk => by
    have ih := gat_b h (ne := ne) p (by omega)
    unfold gat at hk ⊢
    by_cases q : shd (sD d) (sN d) (sU d) p < nI 1
    · rw [if_pos q] at hk ⊢
      exact ih k hk
    · rw [if_neg q] at hk ⊢
      have nb := shd_b h (p := p) (by omega) q
      have hb := insL_b (v := needI (sD d) (sN d) (sU d) p) _ _ ih
      have hk2 : k < (gat (sD d) (sN d) (sU d) ne p).2 + 1 := hk
      show 0 ≤ (upd _ _ _ k).toInt ∧ (upd _ _ _ k).toInt ≤ 700000
      by_cases e : k = (insL (needI (sD d) (sN d) (sU d) p) (gat (sD d) (sN d) (sU d) ne p).2 (gat (sD d) (sN d) (sU d) ne p).1).2
      · rw [e, pk_us]; exact nb
      · rw [pk_un e]; exact hb.2 k hk2 e
theorem lft_s {c : Int32} {g : Nat → Int32} {n : Nat} (hn : n ≤ 7) (hc : 0 ≤ c.toInt ∧ c.toInt ≤ 999999) (hg : ∀ k, k < n → 0 ≤ (g k).toInt ∧ (g k).toInt ≤ 700000) : ∀ k, k ≤ n → 0 ≤ (sumR g k).toInt ∧ (sumR g k).toInt ≤ 700000 * k ∧ (lft c g k).toInt = c.toInt - (sumR g k).toInt
  | 0, _ => by
    have e : (sumR g 0).toInt = 0 := by show (nI 0).toInt = 0; decide
    rw [e]
    exact ⟨by omega, by omega, by show c.toInt = _; omega⟩
  | k + 1, hk => by
    obtain ⟨h1, h2, h3⟩ := lft_s hn hc hg k (by omega)
    have h4 := hg k (by omega)
    have e1 : (sumR g (k + 1)).toInt = (sumR g k).toInt + (g k).toInt := ti_add (by omega) (by omega)
    have e2 : (lft c g (k + 1)).toInt = (lft c g k).toInt - (g k).toInt := ti_sub (by omega) (by omega)
    rw [e1, e2]
    omega
theorem clear_eq {d : TS} (h : okT d) {ne : Nat → Int32} {c : Int32} (h1 : ¬ c < 0) (h2 : c ≤ 999999) : fstN (fun k => decide (lft c (gat (sD d) (sN d) (sU d) ne (sN d)).1 k < (gat (sD d) (sN d) (sU d) ne (sN d)).1 k)) (gat (sD d) (sN d) (sU d) ne (sN d)).2 0 = fstN (fun k => decide (c < sumR (gat (sD d) (sN d) (sU d) ne (sN d)).1 k + (gat (sD d) (sN d) (sU d) ne (sN d)).1 k)) (gat (sD d) (sN d) (sU d) ne (sN d)).2 0 := by
  have hb := gat_b h (ne := ne) (sN d) (Nat.le_refl _)
  have hle := gat_le (sD d) (sN d) (sU d) ne (sN d)
  have h7 := h.2.1
  have c1 := ti_le.mp (Int32.not_lt.mp h1)
  have c2 := ti_le.mp h2
  rw [ti_0] at c1
  rw [show (999999 : Int32).toInt = 999999 from by decide] at c2
  generalize gat (sD d) (sN d) (sU d) ne (sN d) = gg at hb hle ⊢
  refine fstN_ext _ _ (fun j _ hj => ?_)
  obtain ⟨s1, s2, s3⟩ := lft_s (c := c) (g := gg.1) (n := gg.2) (by omega) ⟨c1, c2⟩ hb j (by omega)
  have g1 := hb j (by omega)
  have e : (lft c gg.1 j < gg.1 j) ↔ (c < sumR gg.1 j + gg.1 j) := by
    rw [ti_lt, ti_lt, ti_add (by omega) (by omega), s3]
    omega
  show decide (lft c gg.1 j < gg.1 j) = decide (c < sumR gg.1 j + gg.1 j)
  by_cases q : lft c gg.1 j < gg.1 j
  · rw [decide_eq_true q, decide_eq_true (e.mp q)]
  · rw [decide_eq_false q, decide_eq_false (fun w => q (e.mpr w))]
theorem ftC_ext {it it2 : Nat → Int32} {i m ab ba ca : Nat} (h : ∀ q, q < 6 → it (i + q) = it2 (i + q)) : ftC it i m ab ba ca = ftC it2 i m ab ba ca := by
  have e0 : it i = it2 i := h 0 (by omega)
  unfold ftC
  rw [e0, h 1 (by omega), h 2 (by omega), h 3 (by omega), h 4 (by omega), h 5 (by omega)]
theorem ftA_ext {it it2 : Nat → Int32} {i m k : Nat} (h : ∀ q, q < 6 → it (i + q) = it2 (i + q)) : ftA it i m k = ftA it2 i m k := by
  rw [ftA_s, ftA_s]
  congr 1
  funext ab
  congr 1
  funext ba
  congr 1
  funext ca
  rw [ftC_ext h]
theorem nI_m1 {n : Nat} (h : n < 2 ^ 31) : ¬ nI n = -1 := by
  intro q
  have h2 := congrArg Int32.toInt q
  rw [nI_toInt h, show (-1 : Int32).toInt = -1 from by decide] at h2
  omega
theorem cS_R {rl rn : Nat → Int32} {ri : Nat → Nat → Int32} {a5 a6 a7 : Nat → Int32} (h : rowR rl rn ri a5 a6 a7) : ∀ k, k ≤ 8 → cntR rl k = cS a5 k
  | 0, _ => rfl
  | k + 1, hk => by
    have ih := cS_R h k (by omega)
    unfold cntR cS
    rw [ih]
    rcases h k (by omega) with ⟨e1, e2⟩ | ⟨la, m, hla, hm, e1, e2, e3, e4, e5⟩
    · rw [if_pos e1, if_pos (by rw [e2]; decide)]
    · rw [if_neg (by rw [e1]; exact nI_m1 (by omega)), if_neg (by rw [e3]; exact nI_pos (by omega))]
theorem iter_s {α : Type} {f : Nat → α → α} {k : Nat} {x : α} : iter f (k + 1) x = f k (iter f k x) := rfl
theorem cP_row {f : Nat → Int32} {de : Nat → Int32} {N a c : Nat} (hN : N ≤ 7) (h : ∀ b, b < 7 → f (7 * a + b) = if a < N ∧ b < N then de (a * 7 + b) else nI 0) (hc : cP f (7 * a) = c) : ∀ b, b ≤ 7 → cP f (7 * a + b) = if a < N then cntD de N a c (min b N) else c
  | 0, _ => by
    rw [Nat.add_zero, hc, Nat.zero_min]
    split <;> rfl
  | b + 1, hb => by
    have ih := cP_row hN h hc b (by omega)
    show (if 0 < f (7 * a + b) then cP f (7 * a + b) + 1 else cP f (7 * a + b)) = _
    rw [ih, h b (by omega)]
    by_cases ha : a < N
    · rw [if_pos ha, if_pos ha]
      by_cases hbN : b < N
      · rw [if_pos (show a < N ∧ b < N from ⟨ha, hbN⟩), show min (b + 1) N = b + 1 by omega, show min b N = b by omega]
        rfl
      · rw [if_neg (show ¬ (a < N ∧ b < N) from fun q => hbN q.2), if_neg (show ¬ (0 : Int32) < nI 0 by decide), show min (b + 1) N = min b N by omega]
    · rw [if_neg ha, if_neg ha, if_neg (show ¬ (a < N ∧ b < N) from fun q => ha q.1), if_neg (show ¬ (0 : Int32) < nI 0 by decide)]
theorem cP_all {f : Nat → Int32} {de : Nat → Int32} {N : Nat} (hN : N ≤ 7) (h : ∀ a b, a < 7 → b < 7 → f (7 * a + b) = if a < N ∧ b < N then de (a * 7 + b) else nI 0) : ∀ a, a ≤ 7 → cP f (7 * a) = cntDs de N (min a N)
  | 0, _ => by rw [Nat.zero_min]; rfl
  | a + 1, ha => by
    have ih := cP_all hN h a (by omega)
    have k := cP_row hN (fun b hb => h a b (by omega) hb) ih 7 (by omega)
    rw [show 7 * (a + 1) = 7 * a + 7 by omega, k, show min 7 N = N by omega]
    by_cases q : a < N
    · rw [if_pos q, show min (a + 1) N = a + 1 by omega, show min a N = a by omega]
      rfl
    · rw [if_neg q, show min (a + 1) N = min a N by omega]
theorem cP_enc {d : TS} (hN : sN d ≤ 7) : cP (fun j => encT d (40 + j)) 49 = cntDs (sD d) (sN d) (sN d) := by
  have h := cP_all (f := fun j => encT d (40 + j)) (de := sD d) hN (fun a b ha hb => by
    show encT d (40 + (7 * a + b)) = _
    rw [enc_d0 (by omega), show (7 * a + b) / 7 = a by omega, show (7 * a + b) % 7 = b by omega, Nat.mul_comm 7 a]) 7 (by omega)
  rw [show min 7 (sN d) = sN d by omega] at h
  exact h
theorem cP_0 : ∀ k, cP (fun _ => nI 0) k = 0
  | 0 => rfl
  | k + 1 => by
    show (if 0 < nI 0 then cP (fun _ => nI 0) k + 1 else cP (fun _ => nI 0) k) = 0
    rw [if_neg (by decide), cP_0 k]

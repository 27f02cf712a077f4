/-! THE MODEL: a town as the model keeps it, in ninety-six ints -/
/-- the model's array of a town -/
def encT (d : TS) (k : Nat) : Int32 :=
  if k = 0 then nI (sU d) else if k = 1 then nI (sR d) else if k = 2 then nI (sN d) else if k = 3 then nI (sQ d)
  else if k < 11 then (if k - 4 < sN d then sC d (k - 4) else nI 0)
  else if k < 18 then (if k - 11 < sN d then sI d (k - 11) else nI 0)
  else if k < 25 then (if k - 18 < sN d then bitI (sH d) (nI (k - 18)) else nI 0)
  else if k < 32 then (if k - 25 < sN d then (if sP d (k - 25) = -1 then nI 10 else sP d (k - 25)) else nI 0)
  else if k < 39 then (if k - 32 < sN d then bitI (sF d) (nI (k - 32)) else nI 0)
  else if k < 40 then nI 0
  else if k < 89 then (if (k - 40) / 7 < sN d ∧ (k - 40) % 7 < sN d then sD d (k - 40) else nI 0)
  else nI 0
/-- the town, or nothing at all -/
def encG (d : TS) : Nat → Int32 := if sN d = 0 then (fun _ => nI 0) else encT d
theorem encG_T {d : TS} (h : 0 < sN d) : encG d = encT d := if_neg (by omega)
theorem encG_n (d : TS) : encG d 2 = nI (sN d) := by
  unfold encG
  by_cases h : sN d = 0
  · rw [if_pos h, h]
  · rw [if_neg h]; rfl
abbrev wC (d : TS) (f : Nat → Int32) : TS := (f, d.2)
abbrev wP (d : TS) (f : Nat → Int32) : TS := (sC d, sI d, f, d.2.2.2)
abbrev wD (d : TS) (f : Nat → Int32) : TS := (sC d, sI d, sP d, f, d.2.2.2.2)
abbrev wQ (d : TS) (q : Nat) : TS := (sC d, sI d, sP d, sD d, sN d, sU d, sR d, q, sH d, sF d)
abbrev wH (d : TS) (x : Int32) : TS := (sC d, sI d, sP d, sD d, sN d, sU d, sR d, sQ d, x, sF d)
abbrev wF (d : TS) (x : Int32) : TS := (sC d, sI d, sP d, sD d, sN d, sU d, sR d, sQ d, sH d, x)
section EN
variable {d : TS} {p a b : Nat} {x : Int32}
theorem enc_u : encT d 0 = nI (sU d) := rfl
theorem enc_r : encT d 1 = nI (sR d) := rfl
theorem enc_n : encT d 2 = nI (sN d) := rfl
theorem enc_q : encT d 3 = nI (sQ d) := rfl
theorem enc_c (hN : sN d ≤ 7) (hp : p < sN d) : encT d (4 + p) = sC d p := by
  unfold encT
  rw [if_neg (by omega), if_neg (by omega), if_neg (by omega), if_neg (by omega), if_pos (by omega), if_pos (by omega), show 4 + p - 4 = p by omega]
theorem enc_i (hN : sN d ≤ 7) (hp : p < sN d) : encT d (11 + p) = sI d p := by
  unfold encT
  rw [if_neg (by omega), if_neg (by omega), if_neg (by omega), if_neg (by omega), if_neg (by omega), if_pos (by omega), if_pos (by omega), show 11 + p - 11 = p by omega]
theorem enc_h (hN : sN d ≤ 7) (hp : p < sN d) : encT d (18 + p) = bitI (sH d) (nI p) := by
  unfold encT
  rw [if_neg (by omega), if_neg (by omega), if_neg (by omega), if_neg (by omega), if_neg (by omega), if_neg (by omega), if_pos (by omega), if_pos (by omega), show 18 + p - 18 = p by omega]
theorem enc_p (hN : sN d ≤ 7) (hp : p < sN d) : encT d (25 + p) = if sP d p = -1 then nI 10 else sP d p := by
  unfold encT
  rw [if_neg (by omega), if_neg (by omega), if_neg (by omega), if_neg (by omega), if_neg (by omega), if_neg (by omega), if_neg (by omega), if_pos (by omega), if_pos (by omega), show 25 + p - 25 = p by omega]
theorem enc_f (hN : sN d ≤ 7) (hp : p < sN d) : encT d (32 + p) = bitI (sF d) (nI p) := by
  unfold encT
  rw [if_neg (by omega), if_neg (by omega), if_neg (by omega), if_neg (by omega), if_neg (by omega), if_neg (by omega), if_neg (by omega), if_neg (by omega), if_pos (by omega), if_pos (by omega), show 32 + p - 32 = p by omega]
theorem enc_d0 {j : Nat} (hj : j < 49) : encT d (40 + j) = if j / 7 < sN d ∧ j % 7 < sN d then sD d j else nI 0 := by
  unfold encT
  rw [if_neg (by omega), if_neg (by omega), if_neg (by omega), if_neg (by omega), if_neg (by omega), if_neg (by omega), if_neg (by omega), if_neg (by omega), if_neg (by omega), if_neg (by omega), if_pos (by omega), show 40 + j - 40 = j by omega]
theorem enc_d (hN : sN d ≤ 7) (ha : a < sN d) (hb : b < sN d) : encT d (40 + 7 * a + b) = sD d (a * 7 + b) := by
  rw [show 40 + 7 * a + b = 40 + (a * 7 + b) by omega, enc_d0 (by omega), if_pos ⟨by omega, by omega⟩]
theorem enc_dz (ha : a < 7) (hb : b < 7) (h : ¬ (a < sN d ∧ b < sN d)) : encT d (40 + 7 * a + b) = nI 0 := by
  rw [show 40 + 7 * a + b = 40 + (a * 7 + b) by omega, enc_d0 (by omega), if_neg (fun q => h ⟨by omega, by omega⟩)]
theorem enc_wC (hN : sN d ≤ 7) (hp : p < sN d) : upd (encT d) (4 + p) x = encT (wC d (upd (sC d) p x)) := by
  funext k
  by_cases h : k = 4 + p
  · subst h
    rw [pk_us, enc_c (d := wC d (upd (sC d) p x)) hN hp]
    exact pk_us.symm
  · rw [pk_un h]
    unfold encT
    by_cases h1 : k < 11
    · by_cases h2 : 4 ≤ k
      · have e : upd (sC d) p x (k - 4) = sC d (k - 4) := pk_un (by omega)
        simp only [if_pos h1]
        rw [show sC (wC d (upd (sC d) p x)) (k - 4) = sC d (k - 4) from e]
      · rcases (show k = 0 ∨ k = 1 ∨ k = 2 ∨ k = 3 by omega) with h3 | h3 | h3 | h3 <;> (subst h3; rfl)
    · simp only [if_neg h1]
theorem enc_wP {y : Int32} (hN : sN d ≤ 7) (hp : p < sN d) (hx : (if y = -1 then nI 10 else y) = x) : upd (encT d) (25 + p) x = encT (wP d (upd (sP d) p y)) := by
  funext k
  by_cases h : k = 25 + p
  · subst h
    rw [pk_us, enc_p (d := wP d (upd (sP d) p y)) hN hp, ← hx]
    rw [show sP (wP d (upd (sP d) p y)) p = y from pk_us]
  · rw [pk_un h]
    unfold encT
    by_cases h1 : k < 25
    · by_cases h2 : k < 4
      · rcases (show k = 0 ∨ k = 1 ∨ k = 2 ∨ k = 3 by omega) with h3 | h3 | h3 | h3 <;> (subst h3; rfl)
      · simp only [if_pos h1]
    · by_cases h2 : k < 32
      · have e : upd (sP d) p y (k - 25) = sP d (k - 25) := pk_un (by omega)
        simp only [if_pos h2]
        rw [show sP (wP d (upd (sP d) p y)) (k - 25) = sP d (k - 25) from e]
      · simp only [if_neg h2]
theorem enc_wH {y : Int32} (hN : sN d ≤ 7) (hp : p < sN d) (hx : bitI y (nI p) = x) (ho : ∀ q, q < 7 → q ≠ p → bitI y (nI q) = bitI (sH d) (nI q)) : upd (encT d) (18 + p) x = encT (wH d y) := by
  funext k
  by_cases h : k = 18 + p
  · subst h
    rw [pk_us, enc_h (d := wH d y) hN hp, ← hx]
  · rw [pk_un h]
    unfold encT
    by_cases h1 : k < 25
    · by_cases h2 : k < 18
      · simp only [if_pos h2]
      · have e : bitI y (nI (k - 18)) = bitI (sH d) (nI (k - 18)) := ho _ (by omega) (by omega)
        simp only [if_pos h1]
        rw [show bitI (sH (wH d y)) (nI (k - 18)) = bitI (sH d) (nI (k - 18)) from e]
    · simp only [if_neg h1]
theorem enc_wF {y : Int32} (hN : sN d ≤ 7) (hp : p < sN d) (hx : bitI y (nI p) = x) (ho : ∀ q, q < 7 → q ≠ p → bitI y (nI q) = bitI (sF d) (nI q)) : upd (encT d) (32 + p) x = encT (wF d y) := by
  funext k
  by_cases h : k = 32 + p
  · subst h
    rw [pk_us, enc_f (d := wF d y) hN hp, ← hx]
  · rw [pk_un h]
    unfold encT
    by_cases h1 : k < 39
    · by_cases h2 : k < 32
      · simp only [if_pos h2]
      · have e : bitI y (nI (k - 32)) = bitI (sF d) (nI (k - 32)) := ho _ (by omega) (by omega)
        simp only [if_pos h1]
        rw [show bitI (sF (wF d y)) (nI (k - 32)) = bitI (sF d) (nI (k - 32)) from e]
    · simp only [if_neg h1]
theorem enc_wD (hN : sN d ≤ 7) (ha : a < sN d) (hb : b < sN d) : upd (encT d) (40 + 7 * a + b) x = encT (wD d (upd (sD d) (a * 7 + b) x)) := by
  funext k
  by_cases h : k = 40 + 7 * a + b
  · subst h
    rw [pk_us, enc_d (d := wD d (upd (sD d) (a * 7 + b) x)) hN ha hb]
    exact pk_us.symm
  · rw [pk_un h]
    unfold encT
    by_cases h1 : k < 40
    · simp only [if_pos h1]
    · have e : upd (sD d) (a * 7 + b) x (k - 40) = sD d (k - 40) := pk_un (by omega)
      simp only [if_neg h1]
      rw [show sD (wD d (upd (sD d) (a * 7 + b) x)) (k - 40) = sD d (k - 40) from e]
theorem enc_wQ {q : Nat} : upd (encT d) 3 (nI q) = encT (wQ d q) := by
  funext k
  by_cases h : k = 3
  · subst h; rfl
  · rw [pk_un h]
    unfold encT
    simp only [if_neg h]
theorem enc_hi {k : Nat} (h : 89 ≤ k) : encT d k = nI 0 := by
  unfold encT
  rw [if_neg (by omega), if_neg (by omega), if_neg (by omega), if_neg (by omega), if_neg (by omega), if_neg (by omega), if_neg (by omega), if_neg (by omega), if_neg (by omega), if_neg (by omega), if_neg (by omega)]
theorem encG_hi {k : Nat} (h : 89 ≤ k) : encG d k = nI 0 := by
  unfold encG
  split
  · rfl
  · exact enc_hi h
end EN
/-! bits -/
theorem and31 {k : Nat} (hk : k < 31) : ((nI k &&& 31).toBitVec.smod 32).toNat = k := by
  have h : ∀ k, k < 31 → ((nI k &&& 31).toBitVec.smod 32).toNat = k := by decide
  exact h k hk
theorem shr_bv (x : Int32) {k : Nat} (hk : k < 31) : (x >>> (nI k &&& 31)).toBitVec = x.toBitVec.sshiftRight k := by
  show x.toBitVec.sshiftRight ((nI k &&& 31).toBitVec.smod 32).toNat = _
  rw [and31 hk]
theorem shl_bv (x : Int32) {k : Nat} (hk : k < 31) : (x <<< (nI k &&& 31)).toBitVec = x.toBitVec <<< k := by
  show x.toBitVec <<< ((nI k &&& 31).toBitVec.smod 32) = _
  show x.toBitVec <<< ((nI k &&& 31).toBitVec.smod 32).toNat = _
  rw [and31 hk]
theorem bitI_get (x : Int32) {k : Nat} (hk : k < 31) : bitI x (nI k) = if x.toBitVec.getLsbD k = true then nI 1 else nI 0 := by
  unfold bitI
  rw [pk_and _ (m := nI 1) 1 rfl, shr_bv x hk]
  have h : (x.toBitVec.sshiftRight k).getLsbD 0 = x.toBitVec.getLsbD k := by
    rw [BitVec.getLsbD_sshiftRight]
    simp
    omega
  rw [← h]
  have h2 : (x.toBitVec.sshiftRight k).getLsbD 0 = decide ((x.toBitVec.sshiftRight k).toNat % 2 = 1) := by
    show Nat.testBit _ 0 = _
    rw [Nat.testBit_zero]
  rw [h2]
  rcases Nat.mod_two_eq_zero_or_one (x.toBitVec.sshiftRight k).toNat with h3 | h3
  · rw [show (x.toBitVec.sshiftRight k).toNat % 2 ^ 1 = 0 from h3]; simp [h3]
  · rw [show (x.toBitVec.sshiftRight k).toNat % 2 ^ 1 = 1 from h3]; simp [h3]
theorem one_shl (j k : Nat) (hk : k < 31) (hj : j < 32) : ((nI 1).toBitVec <<< k).getLsbD j = decide (j = k) := by
  rw [BitVec.getLsbD_shiftLeft]
  by_cases h : j < k
  · simp [h]; omega
  · have e : (nI 1).toBitVec = 1#32 := rfl
    rw [e, BitVec.getLsbD_one]
    by_cases h2 : j = k
    · subst h2; simp; omega
    · simp [h, h2]; omega
theorem bit_or (x : Int32) {j k : Nat} (hj : j < 7) (hk : k < 7) : bitI (orI x k) (nI j) = if j = k then nI 1 else bitI x (nI j) := by
  rw [bitI_get _ (by omega), bitI_get _ (by omega)]
  have e : (orI x k).toBitVec.getLsbD j = (x.toBitVec.getLsbD j || decide (j = k)) := by
    show (x.toBitVec ||| (nI 1 <<< (nI k &&& 31)).toBitVec).getLsbD j = _
    rw [BitVec.getLsbD_or, shl_bv _ (by omega), one_shl j k (by omega) (by omega)]
  rw [e]
  by_cases h : j = k
  · simp [h]
  · simp [h]
theorem bit_clr (x : Int32) {j k : Nat} (hj : j < 7) (hk : k < 7) : bitI (clrI x k) (nI j) = if j = k then nI 0 else bitI x (nI j) := by
  rw [bitI_get _ (by omega), bitI_get _ (by omega)]
  have e : (clrI x k).toBitVec.getLsbD j = (x.toBitVec.getLsbD j && !decide (j = k)) := by
    show (x.toBitVec &&& ((nI 1 <<< (nI k &&& 31)).toBitVec ^^^ (-1 : Int32).toBitVec)).getLsbD j = _
    rw [BitVec.getLsbD_and, BitVec.getLsbD_xor, shl_bv _ (by omega), one_shl j k (by omega) (by omega)]
    have e2 : (-1 : Int32).toBitVec = BitVec.allOnes 32 := by decide
    rw [e2, BitVec.getLsbD_allOnes]
    have : decide (j < 32) = true := by simp; omega
    rw [this]
    cases decide (j = k) <;> rfl
  rw [e]
  by_cases h : j = k
  · simp [h]
  · simp [h]
/-- a hedge is set or taken away -/
theorem bit_set (x : Int32) {v j k : Nat} (hv : v < 2) (hj : j < 7) (hk : k < 7) : bitI (clrI x k ||| (nI v <<< (nI k &&& 31))) (nI j) = if j = k then nI v else bitI x (nI j) := by
  rcases (show v = 0 ∨ v = 1 by omega) with h | h
  · subst h
    have e : clrI x k ||| (nI 0 <<< (nI k &&& 31)) = clrI x k := by
      apply Int32.toBitVec_inj.mp
      show (clrI x k).toBitVec ||| (nI 0 <<< (nI k &&& 31)).toBitVec = _
      rw [shl_bv _ (by omega)]
      have e2 : (nI 0).toBitVec = 0#32 := rfl
      rw [e2]; simp
    rw [e, bit_clr x hj hk]
  · subst h
    show bitI (orI (clrI x k) k) (nI j) = _
    rw [bit_or _ hj hk]
    by_cases h : j = k
    · rw [if_pos h, if_pos h]
    · rw [if_neg h, if_neg h, bit_clr x hj hk, if_neg h]
theorem or_z (x : Int32) : x ||| nI 0 = x := by
  apply Int32.toBitVec_inj.mp
  show x.toBitVec ||| (nI 0).toBitVec = _
  have e2 : (nI 0).toBitVec = 0#32 := rfl
  rw [e2]; simp
theorem bit_01 (x : Int32) {k : Nat} (hk : k < 7) : bitI x (nI k) = nI 0 ∨ bitI x (nI k) = nI 1 := by
  rw [bitI_get x (by omega)]
  split
  · exact Or.inr rfl
  · exact Or.inl rfl

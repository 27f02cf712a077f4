/-! THE MODEL's reader: its draft, and the class's -/
noncomputable def lawG (tp : Nat → Int32) (len : Nat) (r : RS) (g : Nat → Int32) : Nat → Int32 :=
  if (tWord tp len 0 r).1 = true then (if (tNum tp len (nI 1) (nI 20) (-1) (tWord tp len 0 r).2).1 = true then (if (tNum tp len (nI 0) (nI 20) (-1) (tNum tp len (nI 1) (nI 20) (-1) (tWord tp len 0 r).2).2).1 = true then upd (upd g 0 (tNum tp len (nI 1) (nI 20) (-1) (tWord tp len 0 r).2).2.2.2.2.2.1) 1 (tNum tp len (nI 0) (nI 20) (-1) (tNum tp len (nI 1) (nI 20) (-1) (tWord tp len 0 r).2).2).2.2.2.2.2.1 else upd g 0 (tNum tp len (nI 1) (nI 20) (-1) (tWord tp len 0 r).2).2.2.2.2.2.1) else g) else g
noncomputable def perG (tp : Nat → Int32) (len : Nat) (r : RS) (N : Nat) (g : Nat → Int32) : Nat → Int32 :=
  if (tNum tp len (nI 0) (nI 999) (-1) (tWord tp len 1 r).2).1 = true then (if (tNum tp len (nI 0) (nI 99) (-1) (tNum tp len (nI 0) (nI 999) (-1) (tWord tp len 1 r).2).2).1 = true then (if (tWord tp len (if atI tp (tNum tp len (nI 0) (nI 99) (-1) (tNum tp len (nI 0) (nI 999) (-1) (tWord tp len 1 r).2).2).2 2 = true then 2 else 3) (tNum tp len (nI 0) (nI 99) (-1) (tNum tp len (nI 0) (nI 999) (-1) (tWord tp len 1 r).2).2).2).1 = true then upd (upd (upd (upd (upd g (4 + N) (tNum tp len (nI 0) (nI 999) (-1) (tWord tp len 1 r).2).2.2.2.2.2.1) (11 + N) (tNum tp len (nI 0) (nI 99) (-1) (tNum tp len (nI 0) (nI 999) (-1) (tWord tp len 1 r).2).2).2.2.2.2.2.1) (18 + N) (b2I (atI tp (tNum tp len (nI 0) (nI 99) (-1) (tNum tp len (nI 0) (nI 999) (-1) (tWord tp len 1 r).2).2).2 2))) (25 + N) (nI 10)) 2 (nI (N + 1)) else upd (upd g (4 + N) (tNum tp len (nI 0) (nI 999) (-1) (tWord tp len 1 r).2).2.2.2.2.2.1) (11 + N) (tNum tp len (nI 0) (nI 99) (-1) (tNum tp len (nI 0) (nI 999) (-1) (tWord tp len 1 r).2).2).2.2.2.2.2.1) else upd g (4 + N) (tNum tp len (nI 0) (nI 999) (-1) (tWord tp len 1 r).2).2.2.2.2.2.1) else g
noncomputable def dbtG (tp : Nat → Int32) (len : Nat) (r : RS) (s : TS) (g : Nat → Int32) : Nat → Int32 :=
  if (tNum tp len (nI 0) (nI (sN s - 1)) (-1) (tWord tp len 4 r).2).1 = true then (if (tNum tp len (nI 0) (nI (sN s - 1)) (tNum tp len (nI 0) (nI (sN s - 1)) (-1) (tWord tp len 4 r).2).2.2.2.2.2.1 (tNum tp len (nI 0) (nI (sN s - 1)) (-1) (tWord tp len 4 r).2).2).1 = true then (if (tNum tp len (nI 1) (nI 999) (-1) (tNum tp len (nI 0) (nI (sN s - 1)) (tNum tp len (nI 0) (nI (sN s - 1)) (-1) (tWord tp len 4 r).2).2.2.2.2.2.1 (tNum tp len (nI 0) (nI (sN s - 1)) (-1) (tWord tp len 4 r).2).2).2).1 = true then upd g (40 + 7 * clp (tNum tp len (nI 0) (nI (sN s - 1)) (-1) (tWord tp len 4 r).2).2.2.2.2.2.1 + clp (tNum tp len (nI 0) (nI (sN s - 1)) (tNum tp len (nI 0) (nI (sN s - 1)) (-1) (tWord tp len 4 r).2).2.2.2.2.2.1 (tNum tp len (nI 0) (nI (sN s - 1)) (-1) (tWord tp len 4 r).2).2).2.2.2.2.2.1) (g (40 + 7 * clp (tNum tp len (nI 0) (nI (sN s - 1)) (-1) (tWord tp len 4 r).2).2.2.2.2.2.1 + clp (tNum tp len (nI 0) (nI (sN s - 1)) (tNum tp len (nI 0) (nI (sN s - 1)) (-1) (tWord tp len 4 r).2).2.2.2.2.2.1 (tNum tp len (nI 0) (nI (sN s - 1)) (-1) (tWord tp len 4 r).2).2).2.2.2.2.2.1) + (tNum tp len (nI 1) (nI 999) (-1) (tNum tp len (nI 0) (nI (sN s - 1)) (tNum tp len (nI 0) (nI (sN s - 1)) (-1) (tWord tp len 4 r).2).2.2.2.2.2.1 (tNum tp len (nI 0) (nI (sN s - 1)) (-1) (tWord tp len 4 r).2).2).2).2.2.2.2.2.1) else g) else g) else g
noncomputable def pplG (tp : Nat → Int32) (len : Nat) : Nat → RS → TS → Nat → Int32
  | 0, _, s => encT s
  | f + 1, r, s => if atI tp r 1 = true then (if (rPer tp len r s).1 = true then pplG tp len f (rPer tp len r s).2.1 (rPer tp len r s).2.2 else perG tp len r (sN s) (encT s)) else encT s
noncomputable def dbsG (tp : Nat → Int32) (len : Nat) : Nat → RS → TS → Nat → Int32
  | 0, _, s => encT s
  | f + 1, r, s => if atI tp r 4 = true then (if (rDbt tp len r s).1 = true then dbsG tp len f (rDbt tp len r s).2.1 (rDbt tp len r s).2.2 else dbtG tp len r s (encT s)) else encT s
noncomputable def dOut (tp : Nat → Int32) (len : Nat) (r : RS) (s : TS) : Bool × RS := if (rDbts tp len r s).1 = true then (if (rDbts tp len r s).2.1.1 = 0 then (true, (rDbts tp len r s).2.1) else (false, hsF 1 (rDbts tp len r s).2.1)) else (false, (rDbts tp len r s).2.1)
noncomputable def pOut (tp : Nat → Int32) (len : Nat) (r : RS) (s : TS) : Bool × RS := if (rPpl tp len r s).1 = true then dOut tp len (rPpl tp len r s).2.1 (rPpl tp len r s).2.2 else (false, (rPpl tp len r s).2.1)
noncomputable def pArr (tp : Nat → Int32) (len : Nat) (r : RS) (s : TS) : Nat → Int32 := if (rPpl tp len r s).1 = true then dbsG tp len 20 (rPpl tp len r s).2.1 (rPpl tp len r s).2.2 else pplG tp len 7 r s
noncomputable def tOut (tp : Nat → Int32) (len : Nat) (r : RS) (s : TS) : Bool × RS := if (rLaw tp len (nextT tp len (r.1, r.2.1, 0, r.2.2.2.1, r.2.2.2.2.1, r.2.2.2.2.2)) (sC s, sI s, sP s, fun _ => nI 0, 0, 1, 0, 0, nI 0, nI 0)).1 = true then pOut tp len (rLaw tp len (nextT tp len (r.1, r.2.1, 0, r.2.2.2.1, r.2.2.2.2.1, r.2.2.2.2.2)) (sC s, sI s, sP s, fun _ => nI 0, 0, 1, 0, 0, nI 0, nI 0)).2.1 (rLaw tp len (nextT tp len (r.1, r.2.1, 0, r.2.2.2.1, r.2.2.2.2.1, r.2.2.2.2.2)) (sC s, sI s, sP s, fun _ => nI 0, 0, 1, 0, 0, nI 0, nI 0)).2.2 else (false, (rLaw tp len (nextT tp len (r.1, r.2.1, 0, r.2.2.2.1, r.2.2.2.2.1, r.2.2.2.2.2)) (sC s, sI s, sP s, fun _ => nI 0, 0, 1, 0, 0, nI 0, nI 0)).2.1)
noncomputable def townG (tp : Nat → Int32) (len : Nat) (r : RS) (s : TS) : Nat → Int32 := if (rLaw tp len (nextT tp len (r.1, r.2.1, 0, r.2.2.2.1, r.2.2.2.2.1, r.2.2.2.2.2)) (sC s, sI s, sP s, fun _ => nI 0, 0, 1, 0, 0, nI 0, nI 0)).1 = true then pArr tp len (rLaw tp len (nextT tp len (r.1, r.2.1, 0, r.2.2.2.1, r.2.2.2.2.1, r.2.2.2.2.2)) (sC s, sI s, sP s, fun _ => nI 0, 0, 1, 0, 0, nI 0, nI 0)).2.1 (rLaw tp len (nextT tp len (r.1, r.2.1, 0, r.2.2.2.1, r.2.2.2.2.1, r.2.2.2.2.2)) (sC s, sI s, sP s, fun _ => nI 0, 0, 1, 0, 0, nI 0, nI 0)).2.2 else lawG tp len (nextT tp len (r.1, r.2.1, 0, r.2.2.2.1, r.2.2.2.2.1, r.2.2.2.2.2)) (fun _ => nI 0)
theorem rTown_o (tp : Nat → Int32) (len : Nat) (r : RS) (s : TS) : (rTown tp len r s).1 = (tOut tp len r s).1 ∧ (rTown tp len r s).2.1 = (tOut tp len r s).2 := by
  unfold rTown tOut
  by_cases h1 : (rLaw tp len (nextT tp len (r.1, r.2.1, 0, r.2.2.2.1, r.2.2.2.2.1, r.2.2.2.2.2)) (sC s, sI s, sP s, fun _ => nI 0, 0, 1, 0, 0, nI 0, nI 0)).1 = true
  · rw [if_pos h1, if_pos h1]
    unfold pOut
    by_cases h2 : (rPpl tp len (rLaw tp len (nextT tp len (r.1, r.2.1, 0, r.2.2.2.1, r.2.2.2.2.1, r.2.2.2.2.2)) (sC s, sI s, sP s, fun _ => nI 0, 0, 1, 0, 0, nI 0, nI 0)).2.1 (rLaw tp len (nextT tp len (r.1, r.2.1, 0, r.2.2.2.1, r.2.2.2.2.1, r.2.2.2.2.2)) (sC s, sI s, sP s, fun _ => nI 0, 0, 1, 0, 0, nI 0, nI 0)).2.2).1 = true
    · rw [if_pos h2, if_pos h2]
      unfold dOut
      by_cases h3 : (rDbts tp len (rPpl tp len (rLaw tp len (nextT tp len (r.1, r.2.1, 0, r.2.2.2.1, r.2.2.2.2.1, r.2.2.2.2.2)) (sC s, sI s, sP s, fun _ => nI 0, 0, 1, 0, 0, nI 0, nI 0)).2.1 (rLaw tp len (nextT tp len (r.1, r.2.1, 0, r.2.2.2.1, r.2.2.2.2.1, r.2.2.2.2.2)) (sC s, sI s, sP s, fun _ => nI 0, 0, 1, 0, 0, nI 0, nI 0)).2.2).2.1 (rPpl tp len (rLaw tp len (nextT tp len (r.1, r.2.1, 0, r.2.2.2.1, r.2.2.2.2.1, r.2.2.2.2.2)) (sC s, sI s, sP s, fun _ => nI 0, 0, 1, 0, 0, nI 0, nI 0)).2.1 (rLaw tp len (nextT tp len (r.1, r.2.1, 0, r.2.2.2.1, r.2.2.2.2.1, r.2.2.2.2.2)) (sC s, sI s, sP s, fun _ => nI 0, 0, 1, 0, 0, nI 0, nI 0)).2.2).2.2).1 = true
      · rw [if_pos h3, if_pos h3]
        by_cases h4 : (rDbts tp len (rPpl tp len (rLaw tp len (nextT tp len (r.1, r.2.1, 0, r.2.2.2.1, r.2.2.2.2.1, r.2.2.2.2.2)) (sC s, sI s, sP s, fun _ => nI 0, 0, 1, 0, 0, nI 0, nI 0)).2.1 (rLaw tp len (nextT tp len (r.1, r.2.1, 0, r.2.2.2.1, r.2.2.2.2.1, r.2.2.2.2.2)) (sC s, sI s, sP s, fun _ => nI 0, 0, 1, 0, 0, nI 0, nI 0)).2.2).2.1 (rPpl tp len (rLaw tp len (nextT tp len (r.1, r.2.1, 0, r.2.2.2.1, r.2.2.2.2.1, r.2.2.2.2.2)) (sC s, sI s, sP s, fun _ => nI 0, 0, 1, 0, 0, nI 0, nI 0)).2.1 (rLaw tp len (nextT tp len (r.1, r.2.1, 0, r.2.2.2.1, r.2.2.2.2.1, r.2.2.2.2.2)) (sC s, sI s, sP s, fun _ => nI 0, 0, 1, 0, 0, nI 0, nI 0)).2.2).2.2).2.1.1 = 0
        · rw [if_pos h4, if_pos h4]; exact ⟨rfl, rfl⟩
        · rw [if_neg h4, if_neg h4]; exact ⟨rfl, rfl⟩
      · rw [if_neg h3, if_neg h3]; exact ⟨rfl, rfl⟩
    · rw [if_neg h2, if_neg h2]; exact ⟨rfl, rfl⟩
  · rw [if_neg h1, if_neg h1]; exact ⟨rfl, rfl⟩
section EA
variable {d : TS} {p : Nat}
theorem enc_cA (hp : p < 7) : encT d (4 + p) = if p < sN d then sC d p else nI 0 := by
  unfold encT
  rw [if_neg (by omega), if_neg (by omega), if_neg (by omega), if_neg (by omega), if_pos (by omega), show 4 + p - 4 = p by omega]
theorem enc_iA (hp : p < 7) : encT d (11 + p) = if p < sN d then sI d p else nI 0 := by
  unfold encT
  rw [if_neg (by omega), if_neg (by omega), if_neg (by omega), if_neg (by omega), if_neg (by omega), if_pos (by omega), show 11 + p - 11 = p by omega]
theorem enc_hA (hp : p < 7) : encT d (18 + p) = if p < sN d then bitI (sH d) (nI p) else nI 0 := by
  unfold encT
  rw [if_neg (by omega), if_neg (by omega), if_neg (by omega), if_neg (by omega), if_neg (by omega), if_neg (by omega), if_pos (by omega), show 18 + p - 18 = p by omega]
theorem enc_pA (hp : p < 7) : encT d (25 + p) = if p < sN d then (if sP d p = -1 then nI 10 else sP d p) else nI 0 := by
  unfold encT
  rw [if_neg (by omega), if_neg (by omega), if_neg (by omega), if_neg (by omega), if_neg (by omega), if_neg (by omega), if_neg (by omega), if_pos (by omega), show 25 + p - 25 = p by omega]
theorem enc_fA (hp : p < 7) : encT d (32 + p) = if p < sN d then bitI (sF d) (nI p) else nI 0 := by
  unfold encT
  rw [if_neg (by omega), if_neg (by omega), if_neg (by omega), if_neg (by omega), if_neg (by omega), if_neg (by omega), if_neg (by omega), if_neg (by omega), if_pos (by omega), show 32 + p - 32 = p by omega]
theorem enc_39 : encT d 39 = nI 0 := rfl
theorem k_cases (k : Nat) : k = 0 ∨ k = 1 ∨ k = 2 ∨ k = 3 ∨ (∃ p, p < 7 ∧ k = 4 + p) ∨ (∃ p, p < 7 ∧ k = 11 + p) ∨ (∃ p, p < 7 ∧ k = 18 + p) ∨ (∃ p, p < 7 ∧ k = 25 + p) ∨ (∃ p, p < 7 ∧ k = 32 + p) ∨ k = 39 ∨ (∃ j, j < 49 ∧ k = 40 + j) ∨ 89 ≤ k := by
  by_cases h1 : k < 4
  · omega
  · by_cases h2 : k < 11
    · exact Or.inr (Or.inr (Or.inr (Or.inr (Or.inl ⟨k - 4, by omega, by omega⟩))))
    · by_cases h3 : k < 18
      · exact Or.inr (Or.inr (Or.inr (Or.inr (Or.inr (Or.inl ⟨k - 11, by omega, by omega⟩)))))
      · by_cases h4 : k < 25
        · exact Or.inr (Or.inr (Or.inr (Or.inr (Or.inr (Or.inr (Or.inl ⟨k - 18, by omega, by omega⟩))))))
        · by_cases h5 : k < 32
          · exact Or.inr (Or.inr (Or.inr (Or.inr (Or.inr (Or.inr (Or.inr (Or.inl ⟨k - 25, by omega, by omega⟩)))))))
          · by_cases h6 : k < 39
            · exact Or.inr (Or.inr (Or.inr (Or.inr (Or.inr (Or.inr (Or.inr (Or.inr (Or.inl ⟨k - 32, by omega, by omega⟩))))))))
            · by_cases h7 : k = 39
              · exact Or.inr (Or.inr (Or.inr (Or.inr (Or.inr (Or.inr (Or.inr (Or.inr (Or.inr (Or.inl h7)))))))))
              · by_cases h8 : k < 89
                · exact Or.inr (Or.inr (Or.inr (Or.inr (Or.inr (Or.inr (Or.inr (Or.inr (Or.inr (Or.inr (Or.inl ⟨k - 40, by omega, by omega⟩))))))))))
                · exact Or.inr (Or.inr (Or.inr (Or.inr (Or.inr (Or.inr (Or.inr (Or.inr (Or.inr (Or.inr (Or.inr (by omega)))))))))))
end EA
/-- a draft while people are read -/
def dfP (s : TS) : Prop := sD s = (fun _ => nI 0) ∧ sF s = nI 0 ∧ sQ s = 0 ∧ (∀ q, sN s ≤ q → q < 7 → bitI (sH s) (nI q) = nI 0) ∧ (1 ≤ sU s ∧ sU s ≤ 20 ∧ sR s ≤ 20) ∧ (∀ p, p < sN s → 0 ≤ (sC s p).toInt ∧ (sC s p).toInt ≤ 999) ∧ (∀ p, p < sN s → sP s p = -1)
/-- a draft when k debts have been read -/
def dfD (s : TS) (k : Nat) : Prop := (∀ a b, a < sN s → b < sN s → 0 ≤ (sD s (a * 7 + b)).toInt ∧ (sD s (a * 7 + b)).toInt ≤ 999 * k) ∧ sQ s = 0 ∧ (1 ≤ sU s ∧ sU s ≤ 20 ∧ sR s ≤ 20) ∧ (∀ p, p < sN s → 0 ≤ (sC s p).toInt ∧ (sC s p).toInt ≤ 999) ∧ (∀ p, p < sN s → sP s p = -1)
def incOK (s : TS) : Prop := ∀ p, p < 7 → 0 ≤ (sI s p).toInt ∧ (sI s p).toInt ≤ 99
theorem num_b {tp : Nat → Int32} {len lo hi : Nat} {nt : Int32} {r : RS} (hlo : lo < 2 ^ 31) (hhi : hi < 2 ^ 31) (h : (tNum tp len (nI lo) (nI hi) nt r).1 = true) : (lo : Int) ≤ (tNum tp len (nI lo) (nI hi) nt r).2.2.2.2.2.1.toInt ∧ (tNum tp len (nI lo) (nI hi) nt r).2.2.2.2.2.1.toInt ≤ hi := by
  have v := tNum_v h
  have h1 := ti_le.mp (Int32.not_lt.mp v.1)
  have h2 := ti_le.mp (Int32.not_lt.mp v.2.1)
  rw [nI_toInt hlo] at h1
  rw [nI_toInt hhi] at h2
  exact ⟨h1, h2⟩
theorem tNum_nt {tp : Nat → Int32} {len : Nat} {lo hi nt : Int32} {r : RS} (hlo : (-1 : Int32) < lo) (h : ¬ (r.1 = 2 ∧ r.2.2.2.1 = nt)) : tNum tp len lo hi nt r = tNum tp len lo hi (-1) r := by
  unfold tNum
  by_cases h1 : r.1 = 2
  · rw [if_pos h1, if_pos h1]
    by_cases h2 : r.2.2.2.1 < lo
    · rw [if_pos h2, if_pos h2]
    · rw [if_neg h2, if_neg h2]
      by_cases h3 : hi < r.2.2.2.1
      · rw [if_pos h3, if_pos h3]
      · rw [if_neg h3, if_neg h3, if_neg (fun q => h ⟨h1, q⟩), if_neg (fun q => h2 (by rw [q]; exact hlo))]
  · rw [if_neg h1, if_neg h1]
theorem tNum_is {tp : Nat → Int32} {len : Nat} {lo hi nt : Int32} {r : RS} (h1 : r.1 = 2) (h : r.2.2.2.1 = nt) : tNum tp len lo hi nt r = (false, hsF 2 r) := by
  unfold tNum
  rw [if_pos h1]
  by_cases h2 : r.2.2.2.1 < lo
  · rw [if_pos h2]
  · rw [if_neg h2]
    by_cases h3 : hi < r.2.2.2.1
    · rw [if_pos h3]
    · rw [if_neg h3, if_pos h]
section GP
variable {tp : Nat → Int32} {len : Nat} {r : RS} {s : TS}
theorem rLaw_t (h : (rLaw tp len r s).1 = true) : (tWord tp len 0 r).1 = true ∧ (tNum tp len (nI 1) (nI 20) (-1) (tWord tp len 0 r).2).1 = true ∧ (tNum tp len (nI 0) (nI 20) (-1) (tNum tp len (nI 1) (nI 20) (-1) (tWord tp len 0 r).2).2).1 = true ∧ (rLaw tp len r s).2.2 = setR (setU s (clp (tNum tp len (nI 1) (nI 20) (-1) (tWord tp len 0 r).2).2.2.2.2.2.1)) (clp (tNum tp len (nI 0) (nI 20) (-1) (tNum tp len (nI 1) (nI 20) (-1) (tWord tp len 0 r).2).2).2.2.2.2.2.1) := by
  unfold rLaw at h ⊢
  by_cases h1 : (tWord tp len 0 r).1 = true
  · rw [if_pos h1] at h ⊢
    by_cases h2 : (tNum tp len (nI 1) (nI 20) (-1) (tWord tp len 0 r).2).1 = true
    · rw [if_pos h2] at h ⊢
      by_cases h3 : (tNum tp len (nI 0) (nI 20) (-1) (tNum tp len (nI 1) (nI 20) (-1) (tWord tp len 0 r).2).2).1 = true
      · rw [if_pos h3]
        exact ⟨h1, h2, h3, rfl⟩
      · rw [if_neg h3] at h; exact absurd (show false = true from h) (by decide)
    · rw [if_neg h2] at h; exact absurd (show false = true from h) (by decide)
  · rw [if_neg h1] at h; exact absurd (show false = true from h) (by decide)
theorem rPer_t (h : (rPer tp len r s).1 = true) : (tNum tp len (nI 0) (nI 999) (-1) (tWord tp len 1 r).2).1 = true ∧ (tNum tp len (nI 0) (nI 99) (-1) (tNum tp len (nI 0) (nI 999) (-1) (tWord tp len 1 r).2).2).1 = true ∧ (tWord tp len (if atI tp (tNum tp len (nI 0) (nI 99) (-1) (tNum tp len (nI 0) (nI 999) (-1) (tWord tp len 1 r).2).2).2 2 = true then 2 else 3) (tNum tp len (nI 0) (nI 99) (-1) (tNum tp len (nI 0) (nI 999) (-1) (tWord tp len 1 r).2).2).2).1 = true ∧ (rPer tp len r s).2.2 = (upd (sC s) (sN s) (tNum tp len (nI 0) (nI 999) (-1) (tWord tp len 1 r).2).2.2.2.2.2.1, upd (sI s) (sN s) (tNum tp len (nI 0) (nI 99) (-1) (tNum tp len (nI 0) (nI 999) (-1) (tWord tp len 1 r).2).2).2.2.2.2.2.1, upd (sP s) (sN s) (-1), sD s, sN s + 1, sU s, sR s, sQ s, (if b2I (atI tp (tNum tp len (nI 0) (nI 99) (-1) (tNum tp len (nI 0) (nI 999) (-1) (tWord tp len 1 r).2).2).2 2) = 0 then sH s else orI (sH s) (sN s)), sF s) := by
  unfold rPer at h ⊢
  by_cases h1 : (tWord tp len 1 r).1 = true
  · rw [if_pos h1] at h ⊢
    by_cases h2 : (tNum tp len (nI 0) (nI 999) (-1) (tWord tp len 1 r).2).1 = true
    · rw [if_pos h2] at h ⊢
      by_cases h3 : (tNum tp len (nI 0) (nI 99) (-1) (tNum tp len (nI 0) (nI 999) (-1) (tWord tp len 1 r).2).2).1 = true
      · rw [if_pos h3] at h ⊢
        by_cases h4 : (tWord tp len (if atI tp (tNum tp len (nI 0) (nI 99) (-1) (tNum tp len (nI 0) (nI 999) (-1) (tWord tp len 1 r).2).2).2 2 = true then 2 else 3) (tNum tp len (nI 0) (nI 99) (-1) (tNum tp len (nI 0) (nI 999) (-1) (tWord tp len 1 r).2).2).2).1 = true
        · rw [if_pos h4]
          exact ⟨h2, h3, h4, rfl⟩
        · rw [if_neg h4] at h; exact absurd (show false = true from h) (by decide)
      · rw [if_neg h3] at h; exact absurd (show false = true from h) (by decide)
    · rw [if_neg h2] at h; exact absurd (show false = true from h) (by decide)
  · rw [if_neg h1] at h; exact absurd (show false = true from h) (by decide)
theorem rDbt_t (h : (rDbt tp len r s).1 = true) : (tNum tp len (nI 0) (nI (sN s - 1)) (-1) (tWord tp len 4 r).2).1 = true ∧ (tNum tp len (nI 0) (nI (sN s - 1)) (tNum tp len (nI 0) (nI (sN s - 1)) (-1) (tWord tp len 4 r).2).2.2.2.2.2.1 (tNum tp len (nI 0) (nI (sN s - 1)) (-1) (tWord tp len 4 r).2).2).1 = true ∧ (tNum tp len (nI 1) (nI 999) (-1) (tNum tp len (nI 0) (nI (sN s - 1)) (tNum tp len (nI 0) (nI (sN s - 1)) (-1) (tWord tp len 4 r).2).2.2.2.2.2.1 (tNum tp len (nI 0) (nI (sN s - 1)) (-1) (tWord tp len 4 r).2).2).2).1 = true ∧ (rDbt tp len r s).2.2 = (sC s, sI s, sP s, upd (sD s) (clp (tNum tp len (nI 0) (nI (sN s - 1)) (-1) (tWord tp len 4 r).2).2.2.2.2.2.1 * 7 + clp (tNum tp len (nI 0) (nI (sN s - 1)) (tNum tp len (nI 0) (nI (sN s - 1)) (-1) (tWord tp len 4 r).2).2.2.2.2.2.1 (tNum tp len (nI 0) (nI (sN s - 1)) (-1) (tWord tp len 4 r).2).2).2.2.2.2.2.1) (sD s (clp (tNum tp len (nI 0) (nI (sN s - 1)) (-1) (tWord tp len 4 r).2).2.2.2.2.2.1 * 7 + clp (tNum tp len (nI 0) (nI (sN s - 1)) (tNum tp len (nI 0) (nI (sN s - 1)) (-1) (tWord tp len 4 r).2).2.2.2.2.2.1 (tNum tp len (nI 0) (nI (sN s - 1)) (-1) (tWord tp len 4 r).2).2).2.2.2.2.2.1) + (tNum tp len (nI 1) (nI 999) (-1) (tNum tp len (nI 0) (nI (sN s - 1)) (tNum tp len (nI 0) (nI (sN s - 1)) (-1) (tWord tp len 4 r).2).2.2.2.2.2.1 (tNum tp len (nI 0) (nI (sN s - 1)) (-1) (tWord tp len 4 r).2).2).2).2.2.2.2.2.1), sN s, sU s, sR s, sQ s, sH s, sF s) := by
  unfold rDbt at h ⊢
  by_cases h1 : (tWord tp len 4 r).1 = true
  · rw [if_pos h1] at h ⊢
    by_cases h2 : (tNum tp len (nI 0) (nI (sN s - 1)) (-1) (tWord tp len 4 r).2).1 = true
    · rw [if_pos h2] at h ⊢
      by_cases h3 : (tNum tp len (nI 0) (nI (sN s - 1)) (tNum tp len (nI 0) (nI (sN s - 1)) (-1) (tWord tp len 4 r).2).2.2.2.2.2.1 (tNum tp len (nI 0) (nI (sN s - 1)) (-1) (tWord tp len 4 r).2).2).1 = true
      · rw [if_pos h3] at h ⊢
        by_cases h4 : (tNum tp len (nI 1) (nI 999) (-1) (tNum tp len (nI 0) (nI (sN s - 1)) (tNum tp len (nI 0) (nI (sN s - 1)) (-1) (tWord tp len 4 r).2).2.2.2.2.2.1 (tNum tp len (nI 0) (nI (sN s - 1)) (-1) (tWord tp len 4 r).2).2).2).1 = true
        · rw [if_pos h4]
          exact ⟨h2, h3, h4, rfl⟩
        · rw [if_neg h4] at h; exact absurd (show false = true from h) (by decide)
      · rw [if_neg h3] at h; exact absurd (show false = true from h) (by decide)
    · rw [if_neg h2] at h; exact absurd (show false = true from h) (by decide)
  · rw [if_neg h1] at h; exact absurd (show false = true from h) (by decide)
theorem clp_b {x : Int32} {lo hi : Nat} (h1 : (lo : Int) ≤ x.toInt) (h2 : x.toInt ≤ hi) : lo ≤ clp x ∧ clp x ≤ hi ∧ nI (clp x) = x := by
  obtain ⟨n, hn, rfl⟩ := nI_of (x := x) (fun q => by have := ti_lt.mp q; rw [ti_0] at this; omega)
  rw [nI_toInt hn] at h1 h2
  rw [show clp (nI n) = n from nI_clamp hn]
  exact ⟨by omega, by omega, rfl⟩
theorem lawG_ok (h : (rLaw tp len r (sC s, sI s, sP s, fun _ => nI 0, 0, 1, 0, 0, nI 0, nI 0)).1 = true) : lawG tp len r (fun _ => nI 0) = encT (rLaw tp len r (sC s, sI s, sP s, fun _ => nI 0, 0, 1, 0, 0, nI 0, nI 0)).2.2 ∧ dfP (rLaw tp len r (sC s, sI s, sP s, fun _ => nI 0, 0, 1, 0, 0, nI 0, nI 0)).2.2 ∧ sN (rLaw tp len r (sC s, sI s, sP s, fun _ => nI 0, 0, 1, 0, 0, nI 0, nI 0)).2.2 = 0 ∧ sI (rLaw tp len r (sC s, sI s, sP s, fun _ => nI 0, 0, 1, 0, 0, nI 0, nI 0)).2.2 = sI s := by
  obtain ⟨h1, h2, h3, e⟩ := rLaw_t h
  rw [e]
  have b1 := num_b (by decide) (by decide) h2
  have b2 := num_b (by decide) (by decide) h3
  have c1 := clp_b b1.1 b1.2
  have c2 := clp_b b2.1 b2.2
  refine ⟨?_, ⟨rfl, rfl, rfl, fun q _ hq => by rw [bitI_get _ (by omega), if_neg]; show ¬ (nI 0).toBitVec.getLsbD q = true; rw [show (nI 0).toBitVec = 0#32 from rfl]; simp, ⟨c1.1, c1.2.1, c2.2.1⟩, fun p hp => absurd hp (Nat.not_lt_zero p), fun p hp => absurd hp (Nat.not_lt_zero p)⟩, rfl, rfl⟩
  unfold lawG
  rw [if_pos h1, if_pos h2, if_pos h3]
  funext k
  rcases k_cases k with w | w | w | w | ⟨p, hp, w⟩ | ⟨p, hp, w⟩ | ⟨p, hp, w⟩ | ⟨p, hp, w⟩ | ⟨p, hp, w⟩ | w | ⟨p, hp, w⟩ | w
  · subst w; rw [pk_un (by decide), pk_us]; exact c1.2.2.symm
  · subst w; rw [pk_us]; exact c2.2.2.symm
  · subst w; rfl
  · subst w; rfl
  · subst w; rw [pk_un (by omega), pk_un (by omega), enc_cA hp, if_neg (Nat.not_lt_zero p)]
  · subst w; rw [pk_un (by omega), pk_un (by omega), enc_iA hp, if_neg (Nat.not_lt_zero p)]
  · subst w; rw [pk_un (by omega), pk_un (by omega), enc_hA hp, if_neg (Nat.not_lt_zero p)]
  · subst w; rw [pk_un (by omega), pk_un (by omega), enc_pA hp, if_neg (Nat.not_lt_zero p)]
  · subst w; rw [pk_un (by omega), pk_un (by omega), enc_fA hp, if_neg (Nat.not_lt_zero p)]
  · subst w; rfl
  · subst w; rw [pk_un (by omega), pk_un (by omega), enc_d0 hp, if_neg (fun q => Nat.not_lt_zero _ q.1)]
  · rw [pk_un (by omega), pk_un (by omega), enc_hi w]
theorem enc_grow {s : TS} {c i hh bb : Int32} (hN : sN s < 7) (d1 : sD s = fun _ => nI 0) (d2 : sF s = nI 0) (hbN : bitI hh (nI (sN s)) = bb) (hbo : ∀ q, q < 7 → q ≠ sN s → bitI hh (nI q) = bitI (sH s) (nI q)) : upd (upd (upd (upd (upd (encT s) (4 + sN s) c) (11 + sN s) i) (18 + sN s) bb) (25 + sN s) (nI 10)) 2 (nI (sN s + 1)) = encT (upd (sC s) (sN s) c, upd (sI s) (sN s) i, upd (sP s) (sN s) (-1), sD s, sN s + 1, sU s, sR s, sQ s, hh, sF s) := by
  funext k
  rcases k_cases k with w | w | w | w | ⟨p, hp, w⟩ | ⟨p, hp, w⟩ | ⟨p, hp, w⟩ | ⟨p, hp, w⟩ | ⟨p, hp, w⟩ | w | ⟨p, hp, w⟩ | w
  · subst w; rw [pk_un (by omega), pk_un (by omega), pk_un (by omega), pk_un (by omega), pk_un (by omega), enc_u, enc_u]
  · subst w; rw [pk_un (by omega), pk_un (by omega), pk_un (by omega), pk_un (by omega), pk_un (by omega), enc_r, enc_r]
  · subst w; rw [pk_us, enc_n]
  · subst w; rw [pk_un (by omega), pk_un (by omega), pk_un (by omega), pk_un (by omega), pk_un (by omega), enc_q, enc_q]
  · subst w
    rw [enc_cA hp, pk_un (by omega), pk_un (by omega), pk_un (by omega), pk_un (by omega)]
    show _ = if p < sN s + 1 then upd (sC s) (sN s) c p else nI 0
    by_cases q : p = sN s
    · rw [q, pk_us, if_pos (show sN s < sN s + 1 by omega), pk_us]
    · rw [pk_un (by omega), enc_cA hp, pk_un q]
      by_cases q2 : p < sN s
      · rw [if_pos q2, if_pos (show p < sN s + 1 by omega)]
      · rw [if_neg q2, if_neg (show ¬ p < sN s + 1 by omega)]
  · subst w
    rw [enc_iA hp, pk_un (by omega), pk_un (by omega), pk_un (by omega)]
    show _ = if p < sN s + 1 then upd (sI s) (sN s) i p else nI 0
    by_cases q : p = sN s
    · rw [q, pk_us, if_pos (show sN s < sN s + 1 by omega), pk_us]
    · rw [pk_un (by omega), pk_un (by omega), enc_iA hp, pk_un q]
      by_cases q2 : p < sN s
      · rw [if_pos q2, if_pos (show p < sN s + 1 by omega)]
      · rw [if_neg q2, if_neg (show ¬ p < sN s + 1 by omega)]
  · subst w
    rw [enc_hA hp, pk_un (by omega), pk_un (by omega)]
    show _ = if p < sN s + 1 then bitI hh (nI p) else nI 0
    by_cases q : p = sN s
    · rw [q, pk_us, if_pos (show sN s < sN s + 1 by omega), hbN]
    · rw [pk_un (by omega), pk_un (by omega), pk_un (by omega), enc_hA hp, hbo p hp q]
      by_cases q2 : p < sN s
      · rw [if_pos q2, if_pos (show p < sN s + 1 by omega)]
      · rw [if_neg q2, if_neg (show ¬ p < sN s + 1 by omega)]
  · subst w
    rw [enc_pA hp, pk_un (by omega)]
    show _ = if p < sN s + 1 then (if upd (sP s) (sN s) (-1) p = -1 then nI 10 else upd (sP s) (sN s) (-1) p) else nI 0
    by_cases q : p = sN s
    · rw [q, pk_us, if_pos (show sN s < sN s + 1 by omega), pk_us, if_pos rfl]
    · rw [pk_un (by omega), pk_un (by omega), pk_un (by omega), pk_un (by omega), enc_pA hp, pk_un q]
      by_cases q2 : p < sN s
      · rw [if_pos q2, if_pos (show p < sN s + 1 by omega)]
      · rw [if_neg q2, if_neg (show ¬ p < sN s + 1 by omega)]
  · subst w
    rw [enc_fA hp, pk_un (by omega), pk_un (by omega), pk_un (by omega), pk_un (by omega), pk_un (by omega), enc_fA hp]
    show (if p < sN s then bitI (sF s) (nI p) else nI 0) = if p < sN s + 1 then bitI (sF s) (nI p) else nI 0
    have z0 : bitI (sF s) (nI p) = nI 0 := by
      rw [d2, bitI_get _ (by omega), if_neg]
      rw [show (nI 0).toBitVec = 0#32 from rfl]; simp
    rw [z0]
    by_cases q2 : p < sN s
    · rw [if_pos q2, if_pos (show p < sN s + 1 by omega)]
    · rw [if_neg q2]; split <;> rfl
  · subst w; rw [pk_un (by omega), pk_un (by omega), pk_un (by omega), pk_un (by omega), pk_un (by omega), enc_39, enc_39]
  · subst w
    rw [enc_d0 hp, pk_un (by omega), pk_un (by omega), pk_un (by omega), pk_un (by omega), pk_un (by omega), enc_d0 hp]
    show (if p / 7 < sN s ∧ p % 7 < sN s then sD s p else nI 0) = if p / 7 < sN s + 1 ∧ p % 7 < sN s + 1 then sD s p else nI 0
    rw [d1]
    split <;> split <;> rfl
  · rw [pk_un (by omega), pk_un (by omega), pk_un (by omega), pk_un (by omega), pk_un (by omega), enc_hi w, enc_hi w]
theorem dfP_grow {s : TS} {c i hh : Int32} (hd : dfP s) (hN : sN s < 7) (hc : 0 ≤ c.toInt ∧ c.toInt ≤ 999) (hbo : ∀ q, q < 7 → q ≠ sN s → bitI hh (nI q) = bitI (sH s) (nI q)) : dfP (upd (sC s) (sN s) c, upd (sI s) (sN s) i, upd (sP s) (sN s) (-1), sD s, sN s + 1, sU s, sR s, sQ s, hh, sF s) := by
  obtain ⟨d1, d2, d3, d4, d5, d6, d7⟩ := hd
  refine ⟨d1, d2, d3, fun q hq1 hq2 => ?_, d5, fun p hp => ?_, fun p hp => ?_⟩
  · show bitI hh (nI q) = nI 0
    have hq3 : sN s + 1 ≤ q := hq1
    rw [hbo q hq2 (by omega)]
    exact d4 q (by omega) hq2
  · have hp2 : p < sN s + 1 := hp
    show 0 ≤ (upd (sC s) (sN s) c p).toInt ∧ (upd (sC s) (sN s) c p).toInt ≤ 999
    by_cases q : p = sN s
    · rw [q, pk_us]; exact hc
    · rw [pk_un q]; exact d6 p (by omega)
  · have hp2 : p < sN s + 1 := hp
    show upd (sP s) (sN s) (-1) p = -1
    by_cases q : p = sN s
    · rw [q, pk_us]
    · rw [pk_un q]; exact d7 p (by omega)
theorem bit_new {s : TS} {b : Bool} (hd : dfP s) (hN : sN s < 7) : bitI (if b2I b = 0 then sH s else orI (sH s) (sN s)) (nI (sN s)) = b2I b ∧ ∀ q, q < 7 → q ≠ sN s → bitI (if b2I b = 0 then sH s else orI (sH s) (sN s)) (nI q) = bitI (sH s) (nI q) := by
  constructor
  · by_cases q : b2I b = 0
    · rw [if_pos q, q]; exact hd.2.2.2.1 _ (Nat.le_refl _) hN
    · rw [if_neg q, bit_or _ hN hN, if_pos rfl, b2I_1 q]; rfl
  · intro q hq hne
    by_cases w : b2I b = 0
    · rw [if_pos w]
    · rw [if_neg w, bit_or _ hq hN, if_neg hne]
theorem perG_ok (hd : dfP s) (hN : sN s < 7) (h : (rPer tp len r s).1 = true) : perG tp len r (sN s) (encT s) = encT (rPer tp len r s).2.2 ∧ dfP (rPer tp len r s).2.2 := by
  obtain ⟨h1, h2, h3, e⟩ := rPer_t h
  rw [e]
  have b1 := num_b (by decide) (by decide) h1
  have bn := bit_new (b := atI tp (tNum tp len (nI 0) (nI 99) (-1) (tNum tp len (nI 0) (nI 999) (-1) (tWord tp len 1 r).2).2).2 2) hd hN
  refine ⟨?_, dfP_grow hd hN b1 bn.2⟩
  unfold perG
  rw [if_pos h1, if_pos h2, if_pos h3]
  exact enc_grow hN hd.1 hd.2.1 bn.1 bn.2
theorem dbt_ab (hN : sN s ≤ 7) (h1N : 1 ≤ sN s) (h1 : (tNum tp len (nI 0) (nI (sN s - 1)) (-1) (tWord tp len 4 r).2).1 = true) (h2 : (tNum tp len (nI 0) (nI (sN s - 1)) (tNum tp len (nI 0) (nI (sN s - 1)) (-1) (tWord tp len 4 r).2).2.2.2.2.2.1 (tNum tp len (nI 0) (nI (sN s - 1)) (-1) (tWord tp len 4 r).2).2).1 = true) : clp (tNum tp len (nI 0) (nI (sN s - 1)) (-1) (tWord tp len 4 r).2).2.2.2.2.2.1 < sN s ∧ clp (tNum tp len (nI 0) (nI (sN s - 1)) (tNum tp len (nI 0) (nI (sN s - 1)) (-1) (tWord tp len 4 r).2).2.2.2.2.2.1 (tNum tp len (nI 0) (nI (sN s - 1)) (-1) (tWord tp len 4 r).2).2).2.2.2.2.2.1 < sN s ∧ nI (clp (tNum tp len (nI 0) (nI (sN s - 1)) (-1) (tWord tp len 4 r).2).2.2.2.2.2.1) = (tNum tp len (nI 0) (nI (sN s - 1)) (-1) (tWord tp len 4 r).2).2.2.2.2.2.1 ∧ nI (clp (tNum tp len (nI 0) (nI (sN s - 1)) (tNum tp len (nI 0) (nI (sN s - 1)) (-1) (tWord tp len 4 r).2).2.2.2.2.2.1 (tNum tp len (nI 0) (nI (sN s - 1)) (-1) (tWord tp len 4 r).2).2).2.2.2.2.2.1) = (tNum tp len (nI 0) (nI (sN s - 1)) (tNum tp len (nI 0) (nI (sN s - 1)) (-1) (tWord tp len 4 r).2).2.2.2.2.2.1 (tNum tp len (nI 0) (nI (sN s - 1)) (-1) (tWord tp len 4 r).2).2).2.2.2.2.2.1 := by
  have b1 := num_b (by decide) (by omega) h1
  have b2 := num_b (by decide) (by omega) h2
  have c1 := clp_b b1.1 b1.2
  have c2 := clp_b b2.1 b2.2
  exact ⟨by omega, by omega, c1.2.2, c2.2.2⟩
theorem dbtG_ok {k : Nat} (hd : dfD s k) (hk : k < 20) (hN : sN s ≤ 7) (h1N : 1 ≤ sN s) (h : (rDbt tp len r s).1 = true) : dbtG tp len r s (encT s) = encT (rDbt tp len r s).2.2 ∧ dfD (rDbt tp len r s).2.2 (k + 1) := by
  obtain ⟨h1, h2, h3, e⟩ := rDbt_t h
  rw [e]
  obtain ⟨ha, hb, ea, eb⟩ := dbt_ab hN h1N h1 h2
  have bm := num_b (by decide) (by decide) h3
  obtain ⟨d1, d2, d3, d4, d5⟩ := hd
  refine ⟨?_, ⟨fun a b ha2 hb2 => ?_, d2, d3, d4, d5⟩⟩
  · unfold dbtG
    rw [if_pos h1, if_pos h2, if_pos h3, enc_d hN ha hb]
    exact enc_wD hN ha hb
  · have q := d1 a b ha2 hb2
    show 0 ≤ (upd (sD s) (clp (tNum tp len (nI 0) (nI (sN s - 1)) (-1) (tWord tp len 4 r).2).2.2.2.2.2.1 * 7 + clp (tNum tp len (nI 0) (nI (sN s - 1)) (tNum tp len (nI 0) (nI (sN s - 1)) (-1) (tWord tp len 4 r).2).2.2.2.2.2.1 (tNum tp len (nI 0) (nI (sN s - 1)) (-1) (tWord tp len 4 r).2).2).2.2.2.2.2.1) _ (a * 7 + b)).toInt ∧ (upd (sD s) (clp (tNum tp len (nI 0) (nI (sN s - 1)) (-1) (tWord tp len 4 r).2).2.2.2.2.2.1 * 7 + clp (tNum tp len (nI 0) (nI (sN s - 1)) (tNum tp len (nI 0) (nI (sN s - 1)) (-1) (tWord tp len 4 r).2).2.2.2.2.2.1 (tNum tp len (nI 0) (nI (sN s - 1)) (-1) (tWord tp len 4 r).2).2).2.2.2.2.2.1) _ (a * 7 + b)).toInt ≤ 999 * ((k + 1 : Nat) : Int)
    by_cases w : a * 7 + b = clp (tNum tp len (nI 0) (nI (sN s - 1)) (-1) (tWord tp len 4 r).2).2.2.2.2.2.1 * 7 + clp (tNum tp len (nI 0) (nI (sN s - 1)) (tNum tp len (nI 0) (nI (sN s - 1)) (-1) (tWord tp len 4 r).2).2.2.2.2.2.1 (tNum tp len (nI 0) (nI (sN s - 1)) (-1) (tWord tp len 4 r).2).2).2.2.2.2.2.1
    · rw [← w, pk_us, ti_add (by omega) (by omega)]
      omega
    · rw [pk_un w]
      omega
theorem dbsG_ok : ∀ (f k : Nat) (r : RS) (s : TS), k + f = 20 → dfD s k → sN s ≤ 7 → 1 ≤ sN s → rOK len r → sOK r → (dbtL tp len f r s).1 = true → dbsG tp len f r s = encT (dbtL tp len f r s).2.2 ∧ dfD (dbtL tp len f r s).2.2 20 ∧ sN (dbtL tp len f r s).2.2 = sN s ∧ sI (dbtL tp len f r s).2.2 = sI s
  | 0, k, r, s, hk, hd, _, _, _, _, _ => by
    have : k = 20 := by omega
    subst this
    exact ⟨rfl, hd, rfl, rfl⟩
  | f + 1, k, r, s, hk, hd, hN, h1N, hr, hs, h => by
    unfold dbtL at h ⊢
    unfold dbsG
    by_cases q : atI tp r 4 = true
    · rw [if_pos q] at h
      rw [if_pos q, if_pos q]
      by_cases q2 : (rDbt tp len r s).1 = true
      · rw [if_pos q2] at h
        rw [if_pos q2, if_pos q2]
        have ok := rDbt_ok (tp := tp) (s := s) hr hs
        have g := dbtG_ok hd (by omega) hN h1N q2
        obtain ⟨a1, a2, a3, a4⟩ := dbsG_ok f (k + 1) _ _ (by omega) g.2 (by rw [ok.2.2]; exact hN) (by rw [ok.2.2]; exact h1N) ok.1 ok.2.1 h
        refine ⟨a1, a2, a3.trans ok.2.2, a4.trans ?_⟩
        rw [(rDbt_t q2).2.2.2]
      · rw [if_neg q2] at h; exact absurd (show false = true from h) (by decide)
    · rw [if_neg q, if_neg q]
      refine ⟨rfl, ?_, rfl, rfl⟩
      obtain ⟨d1, d2, d3, d4, d5⟩ := hd
      exact ⟨fun a b ha hb => by have := d1 a b ha hb; show 0 ≤ (sD s (a * 7 + b)).toInt ∧ (sD s (a * 7 + b)).toInt ≤ 999 * ((20 : Nat) : Int); omega, d2, d3, d4, d5⟩
theorem inc_per (hi : incOK s) : incOK (rPer tp len r s).2.2 := by
  by_cases h : (rPer tp len r s).1 = true
  · obtain ⟨h1, h2, h3, e⟩ := rPer_t h
    rw [e]
    have b2 := num_b (by decide) (by decide) h2
    intro p hp
    show 0 ≤ (upd (sI s) (sN s) _ p).toInt ∧ (upd (sI s) (sN s) _ p).toInt ≤ 99
    by_cases q : p = sN s
    · rw [q, pk_us]; exact b2
    · rw [pk_un q]; exact hi p hp
  · unfold rPer
    by_cases h1 : (tWord tp len 1 r).1 = true
    · rw [if_pos h1]
      by_cases h2 : (tNum tp len (nI 0) (nI 999) (-1) (tWord tp len 1 r).2).1 = true
      · rw [if_pos h2]
        by_cases h3 : (tNum tp len (nI 0) (nI 99) (-1) (tNum tp len (nI 0) (nI 999) (-1) (tWord tp len 1 r).2).2).1 = true
        · rw [if_pos h3]
          by_cases h4 : (tWord tp len (if atI tp (tNum tp len (nI 0) (nI 99) (-1) (tNum tp len (nI 0) (nI 999) (-1) (tWord tp len 1 r).2).2).2 2 = true then 2 else 3) (tNum tp len (nI 0) (nI 99) (-1) (tNum tp len (nI 0) (nI 999) (-1) (tWord tp len 1 r).2).2).2).1 = true
          · rw [if_pos h4]
            have b2 := num_b (by decide) (by decide) h3
            intro p hp
            show 0 ≤ (upd (sI s) (sN s) _ p).toInt ∧ (upd (sI s) (sN s) _ p).toInt ≤ 99
            by_cases q : p = sN s
            · rw [q, pk_us]; exact b2
            · rw [pk_un q]; exact hi p hp
          · rw [if_neg h4]; exact hi
        · rw [if_neg h3]; exact hi
      · rw [if_neg h2]; exact hi
    · rw [if_neg h1]; exact hi
theorem inc_dbt (hi : incOK s) : incOK (rDbt tp len r s).2.2 := by
  unfold rDbt
  split
  · split
    · split
      · split
        · exact hi
        · exact hi
      · exact hi
    · exact hi
  · exact hi
theorem inc_law (hi : incOK s) : incOK (rLaw tp len r s).2.2 := by
  unfold rLaw
  split
  · split
    · split
      · exact hi
      · exact hi
    · exact hi
  · exact hi
theorem inc_ppl : ∀ (f : Nat) (r : RS) (s : TS), incOK s → incOK (pplL tp len f r s).2.2
  | 0, r, s, hi => hi
  | f + 1, r, s, hi => by
    unfold pplL
    split
    · split
      · exact inc_ppl f _ _ (inc_per hi)
      · exact inc_per hi
    · exact hi
theorem inc_dbs : ∀ (f : Nat) (r : RS) (s : TS), incOK s → incOK (dbtL tp len f r s).2.2
  | 0, r, s, hi => hi
  | f + 1, r, s, hi => by
    unfold dbtL
    split
    · split
      · exact inc_dbs f _ _ (inc_dbt hi)
      · exact inc_dbt hi
    · exact hi
theorem inc_rPpl (hi : incOK s) : incOK (rPpl tp len r s).2.2 := by
  have h := inc_ppl (tp := tp) (len := len) 7 r s hi
  unfold rPpl
  split
  · split
    · split
      · exact h
      · exact h
    · exact h
  · exact hi
theorem inc_rDbts (hi : incOK s) : incOK (rDbts tp len r s).2.2 := by
  have h := inc_dbs (tp := tp) (len := len) 20 r s hi
  unfold rDbts
  split
  · split
    · exact h
    · exact h
  · exact h
theorem inc_town (hi : incOK s) : incOK (rTown tp len r s).2.2 := by
  have h1 : incOK (rLaw tp len (nextT tp len (r.1, r.2.1, 0, r.2.2.2.1, r.2.2.2.2.1, r.2.2.2.2.2)) (sC s, sI s, sP s, fun _ => nI 0, 0, 1, 0, 0, nI 0, nI 0)).2.2 := inc_law (s := (sC s, sI s, sP s, fun _ => nI 0, 0, 1, 0, 0, nI 0, nI 0)) hi
  have h2 : incOK (rPpl tp len (rLaw tp len (nextT tp len (r.1, r.2.1, 0, r.2.2.2.1, r.2.2.2.2.1, r.2.2.2.2.2)) (sC s, sI s, sP s, fun _ => nI 0, 0, 1, 0, 0, nI 0, nI 0)).2.1 (rLaw tp len (nextT tp len (r.1, r.2.1, 0, r.2.2.2.1, r.2.2.2.2.1, r.2.2.2.2.2)) (sC s, sI s, sP s, fun _ => nI 0, 0, 1, 0, 0, nI 0, nI 0)).2.2).2.2 := inc_rPpl h1
  have h3 : incOK (rDbts tp len (rPpl tp len (rLaw tp len (nextT tp len (r.1, r.2.1, 0, r.2.2.2.1, r.2.2.2.2.1, r.2.2.2.2.2)) (sC s, sI s, sP s, fun _ => nI 0, 0, 1, 0, 0, nI 0, nI 0)).2.1 (rLaw tp len (nextT tp len (r.1, r.2.1, 0, r.2.2.2.1, r.2.2.2.2.1, r.2.2.2.2.2)) (sC s, sI s, sP s, fun _ => nI 0, 0, 1, 0, 0, nI 0, nI 0)).2.2).2.1 (rPpl tp len (rLaw tp len (nextT tp len (r.1, r.2.1, 0, r.2.2.2.1, r.2.2.2.2.1, r.2.2.2.2.2)) (sC s, sI s, sP s, fun _ => nI 0, 0, 1, 0, 0, nI 0, nI 0)).2.1 (rLaw tp len (nextT tp len (r.1, r.2.1, 0, r.2.2.2.1, r.2.2.2.2.1, r.2.2.2.2.2)) (sC s, sI s, sP s, fun _ => nI 0, 0, 1, 0, 0, nI 0, nI 0)).2.2).2.2).2.2 := inc_rDbts h2
  unfold rTown
  by_cases q1 : (rLaw tp len (nextT tp len (r.1, r.2.1, 0, r.2.2.2.1, r.2.2.2.2.1, r.2.2.2.2.2)) (sC s, sI s, sP s, fun _ => nI 0, 0, 1, 0, 0, nI 0, nI 0)).1 = true
  · rw [if_pos q1]
    by_cases q2 : (rPpl tp len (rLaw tp len (nextT tp len (r.1, r.2.1, 0, r.2.2.2.1, r.2.2.2.2.1, r.2.2.2.2.2)) (sC s, sI s, sP s, fun _ => nI 0, 0, 1, 0, 0, nI 0, nI 0)).2.1 (rLaw tp len (nextT tp len (r.1, r.2.1, 0, r.2.2.2.1, r.2.2.2.2.1, r.2.2.2.2.2)) (sC s, sI s, sP s, fun _ => nI 0, 0, 1, 0, 0, nI 0, nI 0)).2.2).1 = true
    · rw [if_pos q2]
      by_cases q3 : (rDbts tp len (rPpl tp len (rLaw tp len (nextT tp len (r.1, r.2.1, 0, r.2.2.2.1, r.2.2.2.2.1, r.2.2.2.2.2)) (sC s, sI s, sP s, fun _ => nI 0, 0, 1, 0, 0, nI 0, nI 0)).2.1 (rLaw tp len (nextT tp len (r.1, r.2.1, 0, r.2.2.2.1, r.2.2.2.2.1, r.2.2.2.2.2)) (sC s, sI s, sP s, fun _ => nI 0, 0, 1, 0, 0, nI 0, nI 0)).2.2).2.1 (rPpl tp len (rLaw tp len (nextT tp len (r.1, r.2.1, 0, r.2.2.2.1, r.2.2.2.2.1, r.2.2.2.2.2)) (sC s, sI s, sP s, fun _ => nI 0, 0, 1, 0, 0, nI 0, nI 0)).2.1 (rLaw tp len (nextT tp len (r.1, r.2.1, 0, r.2.2.2.1, r.2.2.2.2.1, r.2.2.2.2.2)) (sC s, sI s, sP s, fun _ => nI 0, 0, 1, 0, 0, nI 0, nI 0)).2.2).2.2).1 = true
      · rw [if_pos q3]
        by_cases q4 : (rDbts tp len (rPpl tp len (rLaw tp len (nextT tp len (r.1, r.2.1, 0, r.2.2.2.1, r.2.2.2.2.1, r.2.2.2.2.2)) (sC s, sI s, sP s, fun _ => nI 0, 0, 1, 0, 0, nI 0, nI 0)).2.1 (rLaw tp len (nextT tp len (r.1, r.2.1, 0, r.2.2.2.1, r.2.2.2.2.1, r.2.2.2.2.2)) (sC s, sI s, sP s, fun _ => nI 0, 0, 1, 0, 0, nI 0, nI 0)).2.2).2.1 (rPpl tp len (rLaw tp len (nextT tp len (r.1, r.2.1, 0, r.2.2.2.1, r.2.2.2.2.1, r.2.2.2.2.2)) (sC s, sI s, sP s, fun _ => nI 0, 0, 1, 0, 0, nI 0, nI 0)).2.1 (rLaw tp len (nextT tp len (r.1, r.2.1, 0, r.2.2.2.1, r.2.2.2.2.1, r.2.2.2.2.2)) (sC s, sI s, sP s, fun _ => nI 0, 0, 1, 0, 0, nI 0, nI 0)).2.2).2.2).2.1.1 = 0
        · rw [if_pos q4]; exact h3
        · rw [if_neg q4]; exact h3
      · rw [if_neg q3]; exact h3
    · rw [if_neg q2]; exact h2
  · rw [if_neg q1]; exact h1
/-- the people that were read -/
theorem ppl_dfP : ∀ (f : Nat) (r : RS) (s : TS), sN s + f = 7 → dfP s → rOK len r → sOK r → (pplL tp len f r s).1 = true → dfP (pplL tp len f r s).2.2
  | 0, r, s, _, hd, _, _, _ => hd
  | f + 1, r, s, hf, hd, hr, hs, h => by
    unfold pplL at h ⊢
    by_cases q : atI tp r 1 = true
    · rw [if_pos q] at h ⊢
      by_cases q2 : (rPer tp len r s).1 = true
      · rw [if_pos q2] at h ⊢
        have ok := rPer_ok (tp := tp) (s := s) hr hs
        exact ppl_dfP f _ _ (by rw [ok.2.2 q2]; omega) (perG_ok hd (by omega) q2).2 ok.1 ok.2.1 h
      · rw [if_neg q2] at h; exact absurd (show false = true from h) (by decide)
    · rw [if_neg q]; exact hd
theorem dfP_dfD (h : dfP s) : dfD s 0 := by
  obtain ⟨d1, d2, d3, d4, d5, d6, d7⟩ := h
  refine ⟨fun a b _ _ => ?_, d3, d5, d6, d7⟩
  rw [d1]
  show 0 ≤ (nI 0).toInt ∧ (nI 0).toInt ≤ 999 * ((0 : Nat) : Int)
  decide
theorem rPpl_dfP (hN : sN s = 0) (hd : dfP s) (hr : rOK len r) (hs : sOK r) (h : (rPpl tp len r s).1 = true) : dfP (rPpl tp len r s).2.2 := by
  have k := ppl_dfP (tp := tp) 7 r s (by omega) hd hr hs
  unfold rPpl at h ⊢
  by_cases h1 : atI tp r 1 = true
  · rw [if_pos h1] at h ⊢
    by_cases h2 : (pplL tp len 7 r s).1 = true
    · rw [if_pos h2] at h ⊢
      by_cases h3 : atI tp (pplL tp len 7 r s).2.1 1 = true
      · rw [if_pos h3] at h; exact absurd (show false = true from h) (by decide)
      · rw [if_neg h3]; exact k h2
    · rw [if_neg h2] at h; exact absurd (show false = true from h) (by decide)
  · rw [if_neg h1] at h; exact absurd (show false = true from h) (by decide)
theorem rDbts_t (h : (rDbts tp len r s).1 = true) : (dbtL tp len 20 r s).1 = true ∧ (rDbts tp len r s).2.2 = (dbtL tp len 20 r s).2.2 := by
  unfold rDbts at h ⊢
  by_cases h2 : (dbtL tp len 20 r s).1 = true
  · rw [if_pos h2] at h ⊢
    by_cases h3 : atI tp (dbtL tp len 20 r s).2.1 4 = true
    · rw [if_pos h3] at h; exact absurd (show false = true from h) (by decide)
    · rw [if_neg h3]; exact ⟨h2, rfl⟩
  · rw [if_neg h2] at h; exact absurd (show false = true from h) (by decide)
/-- a town that was read stands, and the model has the same -/
theorem rTown_ok (hi : incOK s) (h : (rTown tp len r s).1 = true) : okT (rTown tp len r s).2.2 ∧ townG tp len r s = encT (rTown tp len r s).2.2 := by
  have hinc := inc_town (tp := tp) (len := len) (r := r) hi
  have hr0 : rOK len (nextT tp len (r.1, r.2.1, 0, r.2.2.2.1, r.2.2.2.2.1, r.2.2.2.2.2)) := tk_ok (Nat.zero_le len)
  have hs0 : sOK (nextT tp len (r.1, r.2.1, 0, r.2.2.2.1, r.2.2.2.2.1, r.2.2.2.2.2)) := tk_s
  have oL := rLaw_ok (tp := tp) (s := (sC s, sI s, sP s, fun _ => nI 0, 0, 1, 0, 0, nI 0, nI 0)) hr0 hs0
  unfold rTown at h hinc ⊢
  unfold townG
  by_cases q1 : (rLaw tp len (nextT tp len (r.1, r.2.1, 0, r.2.2.2.1, r.2.2.2.2.1, r.2.2.2.2.2)) (sC s, sI s, sP s, fun _ => nI 0, 0, 1, 0, 0, nI 0, nI 0)).1 = true
  · rw [if_pos q1] at h hinc ⊢
    rw [if_pos q1]
    obtain ⟨g1, g2, g3, g4⟩ := lawG_ok q1
    have oP := rPpl_ok (tp := tp) (s := (rLaw tp len (nextT tp len (r.1, r.2.1, 0, r.2.2.2.1, r.2.2.2.2.1, r.2.2.2.2.2)) (sC s, sI s, sP s, fun _ => nI 0, 0, 1, 0, 0, nI 0, nI 0)).2.2) oL.1 oL.2.1 oL.2.2
    unfold pArr
    by_cases q2 : (rPpl tp len (rLaw tp len (nextT tp len (r.1, r.2.1, 0, r.2.2.2.1, r.2.2.2.2.1, r.2.2.2.2.2)) (sC s, sI s, sP s, fun _ => nI 0, 0, 1, 0, 0, nI 0, nI 0)).2.1 (rLaw tp len (nextT tp len (r.1, r.2.1, 0, r.2.2.2.1, r.2.2.2.2.1, r.2.2.2.2.2)) (sC s, sI s, sP s, fun _ => nI 0, 0, 1, 0, 0, nI 0, nI 0)).2.2).1 = true
    · rw [if_pos q2] at h hinc ⊢
      rw [if_pos q2]
      have hP := rPpl_dfP g3 g2 oL.1 oL.2.1 q2
      have hNN := oP.2.2 q2
      by_cases q3 : (rDbts tp len (rPpl tp len (rLaw tp len (nextT tp len (r.1, r.2.1, 0, r.2.2.2.1, r.2.2.2.2.1, r.2.2.2.2.2)) (sC s, sI s, sP s, fun _ => nI 0, 0, 1, 0, 0, nI 0, nI 0)).2.1 (rLaw tp len (nextT tp len (r.1, r.2.1, 0, r.2.2.2.1, r.2.2.2.2.1, r.2.2.2.2.2)) (sC s, sI s, sP s, fun _ => nI 0, 0, 1, 0, 0, nI 0, nI 0)).2.2).2.1 (rPpl tp len (rLaw tp len (nextT tp len (r.1, r.2.1, 0, r.2.2.2.1, r.2.2.2.2.1, r.2.2.2.2.2)) (sC s, sI s, sP s, fun _ => nI 0, 0, 1, 0, 0, nI 0, nI 0)).2.1 (rLaw tp len (nextT tp len (r.1, r.2.1, 0, r.2.2.2.1, r.2.2.2.2.1, r.2.2.2.2.2)) (sC s, sI s, sP s, fun _ => nI 0, 0, 1, 0, 0, nI 0, nI 0)).2.2).2.2).1 = true
      · rw [if_pos q3] at h hinc ⊢
        by_cases q4 : (rDbts tp len (rPpl tp len (rLaw tp len (nextT tp len (r.1, r.2.1, 0, r.2.2.2.1, r.2.2.2.2.1, r.2.2.2.2.2)) (sC s, sI s, sP s, fun _ => nI 0, 0, 1, 0, 0, nI 0, nI 0)).2.1 (rLaw tp len (nextT tp len (r.1, r.2.1, 0, r.2.2.2.1, r.2.2.2.2.1, r.2.2.2.2.2)) (sC s, sI s, sP s, fun _ => nI 0, 0, 1, 0, 0, nI 0, nI 0)).2.2).2.1 (rPpl tp len (rLaw tp len (nextT tp len (r.1, r.2.1, 0, r.2.2.2.1, r.2.2.2.2.1, r.2.2.2.2.2)) (sC s, sI s, sP s, fun _ => nI 0, 0, 1, 0, 0, nI 0, nI 0)).2.1 (rLaw tp len (nextT tp len (r.1, r.2.1, 0, r.2.2.2.1, r.2.2.2.2.1, r.2.2.2.2.2)) (sC s, sI s, sP s, fun _ => nI 0, 0, 1, 0, 0, nI 0, nI 0)).2.2).2.2).2.1.1 = 0
        · rw [if_pos q4] at hinc ⊢
          obtain ⟨t1, t2⟩ := rDbts_t q3
          obtain ⟨k1, k2, k3, k4⟩ := dbsG_ok 20 0 _ _ rfl (dfP_dfD hP) hNN.2 hNN.1 oP.1 oP.2.1 t1
          refine ⟨?_, by show dbsG tp len 20 (rPpl tp len (rLaw tp len (nextT tp len (r.1, r.2.1, 0, r.2.2.2.1, r.2.2.2.2.1, r.2.2.2.2.2)) (sC s, sI s, sP s, fun _ => nI 0, 0, 1, 0, 0, nI 0, nI 0)).2.1 (rLaw tp len (nextT tp len (r.1, r.2.1, 0, r.2.2.2.1, r.2.2.2.2.1, r.2.2.2.2.2)) (sC s, sI s, sP s, fun _ => nI 0, 0, 1, 0, 0, nI 0, nI 0)).2.2).2.1 (rPpl tp len (rLaw tp len (nextT tp len (r.1, r.2.1, 0, r.2.2.2.1, r.2.2.2.2.1, r.2.2.2.2.2)) (sC s, sI s, sP s, fun _ => nI 0, 0, 1, 0, 0, nI 0, nI 0)).2.1 (rLaw tp len (nextT tp len (r.1, r.2.1, 0, r.2.2.2.1, r.2.2.2.2.1, r.2.2.2.2.2)) (sC s, sI s, sP s, fun _ => nI 0, 0, 1, 0, 0, nI 0, nI 0)).2.2).2.2 = encT (rDbts tp len (rPpl tp len (rLaw tp len (nextT tp len (r.1, r.2.1, 0, r.2.2.2.1, r.2.2.2.2.1, r.2.2.2.2.2)) (sC s, sI s, sP s, fun _ => nI 0, 0, 1, 0, 0, nI 0, nI 0)).2.1 (rLaw tp len (nextT tp len (r.1, r.2.1, 0, r.2.2.2.1, r.2.2.2.2.1, r.2.2.2.2.2)) (sC s, sI s, sP s, fun _ => nI 0, 0, 1, 0, 0, nI 0, nI 0)).2.2).2.1 (rPpl tp len (rLaw tp len (nextT tp len (r.1, r.2.1, 0, r.2.2.2.1, r.2.2.2.2.1, r.2.2.2.2.2)) (sC s, sI s, sP s, fun _ => nI 0, 0, 1, 0, 0, nI 0, nI 0)).2.1 (rLaw tp len (nextT tp len (r.1, r.2.1, 0, r.2.2.2.1, r.2.2.2.2.1, r.2.2.2.2.2)) (sC s, sI s, sP s, fun _ => nI 0, 0, 1, 0, 0, nI 0, nI 0)).2.2).2.2).2.2; rw [t2]; exact k1⟩
          have hinc2 : incOK (rDbts tp len (rPpl tp len (rLaw tp len (nextT tp len (r.1, r.2.1, 0, r.2.2.2.1, r.2.2.2.2.1, r.2.2.2.2.2)) (sC s, sI s, sP s, fun _ => nI 0, 0, 1, 0, 0, nI 0, nI 0)).2.1 (rLaw tp len (nextT tp len (r.1, r.2.1, 0, r.2.2.2.1, r.2.2.2.2.1, r.2.2.2.2.2)) (sC s, sI s, sP s, fun _ => nI 0, 0, 1, 0, 0, nI 0, nI 0)).2.2).2.1 (rPpl tp len (rLaw tp len (nextT tp len (r.1, r.2.1, 0, r.2.2.2.1, r.2.2.2.2.1, r.2.2.2.2.2)) (sC s, sI s, sP s, fun _ => nI 0, 0, 1, 0, 0, nI 0, nI 0)).2.1 (rLaw tp len (nextT tp len (r.1, r.2.1, 0, r.2.2.2.1, r.2.2.2.2.1, r.2.2.2.2.2)) (sC s, sI s, sP s, fun _ => nI 0, 0, 1, 0, 0, nI 0, nI 0)).2.2).2.2).2.2 := hinc
          show okT (rDbts tp len (rPpl tp len (rLaw tp len (nextT tp len (r.1, r.2.1, 0, r.2.2.2.1, r.2.2.2.2.1, r.2.2.2.2.2)) (sC s, sI s, sP s, fun _ => nI 0, 0, 1, 0, 0, nI 0, nI 0)).2.1 (rLaw tp len (nextT tp len (r.1, r.2.1, 0, r.2.2.2.1, r.2.2.2.2.1, r.2.2.2.2.2)) (sC s, sI s, sP s, fun _ => nI 0, 0, 1, 0, 0, nI 0, nI 0)).2.2).2.1 (rPpl tp len (rLaw tp len (nextT tp len (r.1, r.2.1, 0, r.2.2.2.1, r.2.2.2.2.1, r.2.2.2.2.2)) (sC s, sI s, sP s, fun _ => nI 0, 0, 1, 0, 0, nI 0, nI 0)).2.1 (rLaw tp len (nextT tp len (r.1, r.2.1, 0, r.2.2.2.1, r.2.2.2.2.1, r.2.2.2.2.2)) (sC s, sI s, sP s, fun _ => nI 0, 0, 1, 0, 0, nI 0, nI 0)).2.2).2.2).2.2
          rw [t2] at hinc2 ⊢
          generalize (dbtL tp len 20 (rPpl tp len (rLaw tp len (nextT tp len (r.1, r.2.1, 0, r.2.2.2.1, r.2.2.2.2.1, r.2.2.2.2.2)) (sC s, sI s, sP s, fun _ => nI 0, 0, 1, 0, 0, nI 0, nI 0)).2.1 (rLaw tp len (nextT tp len (r.1, r.2.1, 0, r.2.2.2.1, r.2.2.2.2.1, r.2.2.2.2.2)) (sC s, sI s, sP s, fun _ => nI 0, 0, 1, 0, 0, nI 0, nI 0)).2.2).2.1 (rPpl tp len (rLaw tp len (nextT tp len (r.1, r.2.1, 0, r.2.2.2.1, r.2.2.2.2.1, r.2.2.2.2.2)) (sC s, sI s, sP s, fun _ => nI 0, 0, 1, 0, 0, nI 0, nI 0)).2.1 (rLaw tp len (nextT tp len (r.1, r.2.1, 0, r.2.2.2.1, r.2.2.2.2.1, r.2.2.2.2.2)) (sC s, sI s, sP s, fun _ => nI 0, 0, 1, 0, 0, nI 0, nI 0)).2.2).2.2).2.2 = w at k2 k3 hinc2 ⊢
          obtain ⟨d1, d2, d3, d4, d5⟩ := k2
          have hM := sumZ_le (f := fun p => (sC w p).toInt) (M := 999) (n := sN w) (fun p hp => (d4 p hp).2)
          have hw7 : sN w ≤ 7 := by rw [k3]; exact hNN.2
          refine ⟨by rw [k3]; exact hNN.1, hw7, d3.1, d3.2.1, d3.2.2, by rw [d2]; decide, ⟨fun p hp => (d4 p hp).1, ?_⟩, fun a b ha hb => ?_, hinc2, fun p hp => Or.inl (d5 p hp)⟩
          · rw [d2]
            have : (sN w : Int) ≤ 7 := by omega
            show sumZ (fun p => (sC w p).toInt) (sN w) ≤ 7000 + 700 * ((0 : Nat) : Int)
            omega
          · have := d1 a b ha hb
            omega
        · rw [if_neg q4] at h; exact absurd (show false = true from h) (by decide)
      · rw [if_neg q3] at h; exact absurd (show false = true from h) (by decide)
    · rw [if_neg q2] at h; exact absurd (show false = true from h) (by decide)
  · rw [if_neg q1] at h; exact absurd (show false = true from h) (by decide)
theorem tOut_s : sOK (tOut tp len r s).2 := by
  have hr0 : rOK len (nextT tp len (r.1, r.2.1, 0, r.2.2.2.1, r.2.2.2.2.1, r.2.2.2.2.2)) := tk_ok (Nat.zero_le len)
  have hs0 : sOK (nextT tp len (r.1, r.2.1, 0, r.2.2.2.1, r.2.2.2.2.1, r.2.2.2.2.2)) := tk_s
  have oL := rLaw_ok (tp := tp) (s := (sC s, sI s, sP s, fun _ => nI 0, 0, 1, 0, 0, nI 0, nI 0)) hr0 hs0
  have oP := rPpl_ok (tp := tp) (s := (rLaw tp len (nextT tp len (r.1, r.2.1, 0, r.2.2.2.1, r.2.2.2.2.1, r.2.2.2.2.2)) (sC s, sI s, sP s, fun _ => nI 0, 0, 1, 0, 0, nI 0, nI 0)).2.2) oL.1 oL.2.1 oL.2.2
  have oD := dbtL_ok (tp := tp) 20 (rPpl tp len (rLaw tp len (nextT tp len (r.1, r.2.1, 0, r.2.2.2.1, r.2.2.2.2.1, r.2.2.2.2.2)) (sC s, sI s, sP s, fun _ => nI 0, 0, 1, 0, 0, nI 0, nI 0)).2.1 (rLaw tp len (nextT tp len (r.1, r.2.1, 0, r.2.2.2.1, r.2.2.2.2.1, r.2.2.2.2.2)) (sC s, sI s, sP s, fun _ => nI 0, 0, 1, 0, 0, nI 0, nI 0)).2.2).2.1 (rPpl tp len (rLaw tp len (nextT tp len (r.1, r.2.1, 0, r.2.2.2.1, r.2.2.2.2.1, r.2.2.2.2.2)) (sC s, sI s, sP s, fun _ => nI 0, 0, 1, 0, 0, nI 0, nI 0)).2.1 (rLaw tp len (nextT tp len (r.1, r.2.1, 0, r.2.2.2.1, r.2.2.2.2.1, r.2.2.2.2.2)) (sC s, sI s, sP s, fun _ => nI 0, 0, 1, 0, 0, nI 0, nI 0)).2.2).2.2 oP.1 oP.2.1
  have hsD : sOK (rDbts tp len (rPpl tp len (rLaw tp len (nextT tp len (r.1, r.2.1, 0, r.2.2.2.1, r.2.2.2.2.1, r.2.2.2.2.2)) (sC s, sI s, sP s, fun _ => nI 0, 0, 1, 0, 0, nI 0, nI 0)).2.1 (rLaw tp len (nextT tp len (r.1, r.2.1, 0, r.2.2.2.1, r.2.2.2.2.1, r.2.2.2.2.2)) (sC s, sI s, sP s, fun _ => nI 0, 0, 1, 0, 0, nI 0, nI 0)).2.2).2.1 (rPpl tp len (rLaw tp len (nextT tp len (r.1, r.2.1, 0, r.2.2.2.1, r.2.2.2.2.1, r.2.2.2.2.2)) (sC s, sI s, sP s, fun _ => nI 0, 0, 1, 0, 0, nI 0, nI 0)).2.1 (rLaw tp len (nextT tp len (r.1, r.2.1, 0, r.2.2.2.1, r.2.2.2.2.1, r.2.2.2.2.2)) (sC s, sI s, sP s, fun _ => nI 0, 0, 1, 0, 0, nI 0, nI 0)).2.2).2.2).2.1 := rDbts_s oD.2.1
  unfold tOut
  split
  · unfold pOut
    split
    · unfold dOut
      split
      · split
        · exact hsD
        · exact hsD
      · exact hsD
    · exact oP.2.1
  · exact oL.2.1
end GP

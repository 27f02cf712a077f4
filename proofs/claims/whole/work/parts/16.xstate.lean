/-! THE CLASS'S STATE: towns as values, and the relation XR between the heap and the values -/
abbrev TS : Type := (Nat → Int32) × (Nat → Int32) × (Nat → Int32) × (Nat → Int32) × Nat × Nat × Nat × Nat × Int32 × Int32
abbrev sC (s : TS) : Nat → Int32 := s.1
abbrev sI (s : TS) : Nat → Int32 := s.2.1
abbrev sP (s : TS) : Nat → Int32 := s.2.2.1
abbrev sD (s : TS) : Nat → Int32 := s.2.2.2.1
abbrev sN (s : TS) : Nat := s.2.2.2.2.1
abbrev sU (s : TS) : Nat := s.2.2.2.2.2.1
abbrev sR (s : TS) : Nat := s.2.2.2.2.2.2.1
abbrev sQ (s : TS) : Nat := s.2.2.2.2.2.2.2.1
abbrev sH (s : TS) : Int32 := s.2.2.2.2.2.2.2.2.1
abbrev sF (s : TS) : Int32 := s.2.2.2.2.2.2.2.2.2
def twS (σ : AH) (t : Nat) (s : TS) : AH := tw σ t (sC s) (sI s) (sP s) (sD s) (nI (sN s)) (nI (sU s)) (nI (sR s)) (nI (sQ s)) (sH s) (sF s)
/-- the town s stands at t -/
def Tat (σ : AH) (t : Nat) (s : TS) : Prop := twS σ t s = σ
theorem Tat.o {σ : AH} {t : Nat} {s : TS} (h : Tat σ t s) : σ t = some (.inr (.inr (4, [.ref (t + 1), .ref (t + 2), .ref (t + 3), .ref (t + 4), .int (nI (sN s)), .int (nI (sU s)), .int (nI (sR s)), .int (nI (sQ s)), .int (sH s), .int (sF s)]))) := by
  have h2 : twS σ t s t = σ t := congrFun h t
  rw [← h2]; exact tw_o
theorem Tat.c {σ : AH} {t : Nat} {s : TS} (h : Tat σ t s) : σ (t + 1) = some (.inl (0, 7, sC s)) := by
  have h2 : twS σ t s (t + 1) = σ (t + 1) := congrFun h (t + 1)
  rw [← h2]; exact tw_c
theorem Tat.i {σ : AH} {t : Nat} {s : TS} (h : Tat σ t s) : σ (t + 2) = some (.inl (0, 7, sI s)) := by
  have h2 : twS σ t s (t + 2) = σ (t + 2) := congrFun h (t + 2)
  rw [← h2]; exact tw_i
theorem Tat.p {σ : AH} {t : Nat} {s : TS} (h : Tat σ t s) : σ (t + 3) = some (.inl (0, 7, sP s)) := by
  have h2 : twS σ t s (t + 3) = σ (t + 3) := congrFun h (t + 3)
  rw [← h2]; exact tw_p
theorem Tat.d {σ : AH} {t : Nat} {s : TS} (h : Tat σ t s) : σ (t + 4) = some (.inl (0, 49, sD s)) := by
  have h2 : twS σ t s (t + 4) = σ (t + 4) := congrFun h (t + 4)
  rw [← h2]; exact tw_d
theorem Tat.new {σ : AH} {t : Nat} {s : TS} : Tat (twS σ t s) t s := tw_tw
theorem Tat.keep {σ σ' : AH} {t : Nat} {s : TS} (h : Tat σ t s) (hk : ∀ k, t ≤ k → k ≤ t + 4 → σ' k = σ k) : Tat σ' t s :=
  tw_self ((hk t (by omega) (by omega)).trans h.o) ((hk (t + 1) (by omega) (by omega)).trans h.c) ((hk (t + 2) (by omega) (by omega)).trans h.i) ((hk (t + 3) (by omega) (by omega)).trans h.p) ((hk (t + 4) (by omega) (by omega)).trans h.d)
theorem twS_x {σ : AH} {t : Nat} {s : TS} {k : Nat} (h : k < t ∨ t + 4 < k) : twS σ t s k = σ k := tw_x h
def Rat (σ : AH) (a : Nat) (it : Nat → Int32) (la le : Int32) : Prop := rw' σ a it la le = σ
theorem Rat.o {σ : AH} {a : Nat} {it : Nat → Int32} {la le : Int32} (h : Rat σ a it la le) : σ a = some (.inr (.inr (3, [.ref (a + 1), .int la, .int le]))) := by
  have h2 : rw' σ a it la le a = σ a := congrFun h a
  rw [← h2]; exact rw_o
theorem Rat.i {σ : AH} {a : Nat} {it : Nat → Int32} {la le : Int32} (h : Rat σ a it la le) : σ (a + 1) = some (.inl (0, 40, it)) := by
  have h2 : rw' σ a it la le (a + 1) = σ (a + 1) := congrFun h (a + 1)
  rw [← h2]; exact rw_i
theorem Rat.new {σ : AH} {a : Nat} {it : Nat → Int32} {la le : Int32} : Rat (rw' σ a it la le) a it la le := by
  funext k; unfold rw'; repeat (split; rfl)
  rfl
theorem Rat.keep {σ σ' : AH} {a : Nat} {it : Nat → Int32} {la le : Int32} (h : Rat σ a it la le) (hk : ∀ k, a ≤ k → k ≤ a + 1 → σ' k = σ k) : Rat σ' a it la le := rw_self ((hk a (by omega) (by omega)).trans h.o) ((hk (a + 1) (by omega) (by omega)).trans h.i)
theorem ups_x {σ : AH} {a k : Nat} {e : AE} (h : k ≠ a) : ups σ a e k = σ k := by unfold ups; rw [if_neg h]
theorem ups_a {σ : AH} {a : Nat} {e : AE} : ups σ a e a = some e := by unfold ups; rw [if_pos rfl]
/-- the object itself -/
abbrev xO (lf fd : Int32) : AE := .inr (.inr (5, [.ref 1, .ref 18, .int lf, .int fd, .ref 25, .ref 30, .ref 35, .ref 157, .ref 168, .ref 170]))
abbrev xA (nx kp : Nat) : AE := .inr (.inr (0, [.ref 36, .int (nI nx), .int (nI kp)]))
abbrev xK (tr : Nat) : AE := .inr (.inr (1, [.ref 169, .int (nI tr)]))
/-- the reader: length, sort, start, end, value, taken, fault -/
abbrev xR (rd : Nat → Int32) : AE := .inr (.inr (2, [.ref 19, .ref 20, .int (rd 0), .int (rd 1), .int (rd 2), .int (rd 3), .int (rd 4), .int (rd 5), .int (rd 6)]))
def XR (σ : AH) (lf fd : Int32) (rl rn : Nat → Int32) (ri : Nat → Nat → Int32) (tp rd : Nat → Int32) (dd d df : TS) (nx kp : Nat) (da di : Nat → TS) (tr : Nat) (bo ne : Nat → Int32) : Prop :=
  σ 0 = some (xO lf fd) ∧
  σ 1 = some (.inr (.inl (3, 8, fun r => some (2 + 2 * r)))) ∧
  (∀ r, r < 8 → Rat σ (2 + 2 * r) (ri r) (rl r) (rn r)) ∧
  σ 18 = some (xR rd) ∧
  σ 19 = some (.inl (1, 400, tp)) ∧
  Tat σ 20 dd ∧
  Tat σ 25 d ∧
  Tat σ 30 df ∧
  σ 35 = some (xA nx kp) ∧
  σ 36 = some (.inr (.inl (4, 24, fun i => some (37 + 5 * i)))) ∧
  (∀ i, i < 24 → Tat σ (37 + 5 * i) (da i)) ∧
  σ 157 = some (.inr (.inl (4, 2, fun i => some (158 + 5 * i)))) ∧
  (∀ i, i < 2 → Tat σ (158 + 5 * i) (di i)) ∧
  σ 168 = some (xK tr) ∧
  σ 169 = some (.inl (0, 16, bo)) ∧
  σ 170 = some (.inl (0, 7, ne))
section XRL
variable {σ : AH} {lf fd : Int32} {rl rn : Nat → Int32} {ri : Nat → Nat → Int32} {tp rd : Nat → Int32} {dd d df : TS} {nx kp : Nat} {da di : Nat → TS} {tr : Nat} {bo ne : Nat → Int32}
theorem XR.obj (lf2 fd2 : Int32) (h : XR σ lf fd rl rn ri tp rd dd d df nx kp da di tr bo ne) : XR (ups σ 0 (xO lf2 fd2)) lf2 fd2 rl rn ri tp rd dd d df nx kp da di tr bo ne := by
  obtain ⟨h0, h1, h2, h3, h4, h5, h6, h7, h8, h9, h10, h11, h12, h13, h14, h15⟩ := h
  exact ⟨ups_a,
    (ups_x (by omega) : _ = σ 1).trans h1,
    fun i hi => (h2 i hi).keep (fun k h1 h2 => ups_x (by omega)),
    (ups_x (by omega) : _ = σ 18).trans h3,
    (ups_x (by omega) : _ = σ 19).trans h4,
    h5.keep (fun k h1 h2 => ups_x (by omega)),
    h6.keep (fun k h1 h2 => ups_x (by omega)),
    h7.keep (fun k h1 h2 => ups_x (by omega)),
    (ups_x (by omega) : _ = σ 35).trans h8,
    (ups_x (by omega) : _ = σ 36).trans h9,
    fun i hi => (h10 i hi).keep (fun k h1 h2 => ups_x (by omega)),
    (ups_x (by omega) : _ = σ 157).trans h11,
    fun i hi => (h12 i hi).keep (fun k h1 h2 => ups_x (by omega)),
    (ups_x (by omega) : _ = σ 168).trans h13,
    (ups_x (by omega) : _ = σ 169).trans h14,
    (ups_x (by omega) : _ = σ 170).trans h15⟩
theorem XR.rdr (rd2 : Nat → Int32) (h : XR σ lf fd rl rn ri tp rd dd d df nx kp da di tr bo ne) : XR (ups σ 18 (xR rd2)) lf fd rl rn ri tp rd2 dd d df nx kp da di tr bo ne := by
  obtain ⟨h0, h1, h2, h3, h4, h5, h6, h7, h8, h9, h10, h11, h12, h13, h14, h15⟩ := h
  exact ⟨(ups_x (by omega) : _ = σ 0).trans h0,
    (ups_x (by omega) : _ = σ 1).trans h1,
    fun i hi => (h2 i hi).keep (fun k h1 h2 => ups_x (by omega)),
    ups_a,
    (ups_x (by omega) : _ = σ 19).trans h4,
    h5.keep (fun k h1 h2 => ups_x (by omega)),
    h6.keep (fun k h1 h2 => ups_x (by omega)),
    h7.keep (fun k h1 h2 => ups_x (by omega)),
    (ups_x (by omega) : _ = σ 35).trans h8,
    (ups_x (by omega) : _ = σ 36).trans h9,
    fun i hi => (h10 i hi).keep (fun k h1 h2 => ups_x (by omega)),
    (ups_x (by omega) : _ = σ 157).trans h11,
    fun i hi => (h12 i hi).keep (fun k h1 h2 => ups_x (by omega)),
    (ups_x (by omega) : _ = σ 168).trans h13,
    (ups_x (by omega) : _ = σ 169).trans h14,
    (ups_x (by omega) : _ = σ 170).trans h15⟩
theorem XR.tape (tp2 : Nat → Int32) (h : XR σ lf fd rl rn ri tp rd dd d df nx kp da di tr bo ne) : XR (ups σ 19 (.inl (1, 400, tp2))) lf fd rl rn ri tp2 rd dd d df nx kp da di tr bo ne := by
  obtain ⟨h0, h1, h2, h3, h4, h5, h6, h7, h8, h9, h10, h11, h12, h13, h14, h15⟩ := h
  exact ⟨(ups_x (by omega) : _ = σ 0).trans h0,
    (ups_x (by omega) : _ = σ 1).trans h1,
    fun i hi => (h2 i hi).keep (fun k h1 h2 => ups_x (by omega)),
    (ups_x (by omega) : _ = σ 18).trans h3,
    ups_a,
    h5.keep (fun k h1 h2 => ups_x (by omega)),
    h6.keep (fun k h1 h2 => ups_x (by omega)),
    h7.keep (fun k h1 h2 => ups_x (by omega)),
    (ups_x (by omega) : _ = σ 35).trans h8,
    (ups_x (by omega) : _ = σ 36).trans h9,
    fun i hi => (h10 i hi).keep (fun k h1 h2 => ups_x (by omega)),
    (ups_x (by omega) : _ = σ 157).trans h11,
    fun i hi => (h12 i hi).keep (fun k h1 h2 => ups_x (by omega)),
    (ups_x (by omega) : _ = σ 168).trans h13,
    (ups_x (by omega) : _ = σ 169).trans h14,
    (ups_x (by omega) : _ = σ 170).trans h15⟩
theorem XR.draft (s : TS) (h : XR σ lf fd rl rn ri tp rd dd d df nx kp da di tr bo ne) : XR (twS σ 20 s) lf fd rl rn ri tp rd s d df nx kp da di tr bo ne := by
  obtain ⟨h0, h1, h2, h3, h4, h5, h6, h7, h8, h9, h10, h11, h12, h13, h14, h15⟩ := h
  exact ⟨(twS_x (by omega) : _ = σ 0).trans h0,
    (twS_x (by omega) : _ = σ 1).trans h1,
    fun i hi => (h2 i hi).keep (fun k h1 h2 => twS_x (by omega)),
    (twS_x (by omega) : _ = σ 18).trans h3,
    (twS_x (by omega) : _ = σ 19).trans h4,
    Tat.new,
    h6.keep (fun k h1 h2 => twS_x (by omega)),
    h7.keep (fun k h1 h2 => twS_x (by omega)),
    (twS_x (by omega) : _ = σ 35).trans h8,
    (twS_x (by omega) : _ = σ 36).trans h9,
    fun i hi => (h10 i hi).keep (fun k h1 h2 => twS_x (by omega)),
    (twS_x (by omega) : _ = σ 157).trans h11,
    fun i hi => (h12 i hi).keep (fun k h1 h2 => twS_x (by omega)),
    (twS_x (by omega) : _ = σ 168).trans h13,
    (twS_x (by omega) : _ = σ 169).trans h14,
    (twS_x (by omega) : _ = σ 170).trans h15⟩
theorem XR.town (s : TS) (h : XR σ lf fd rl rn ri tp rd dd d df nx kp da di tr bo ne) : XR (twS σ 25 s) lf fd rl rn ri tp rd dd s df nx kp da di tr bo ne := by
  obtain ⟨h0, h1, h2, h3, h4, h5, h6, h7, h8, h9, h10, h11, h12, h13, h14, h15⟩ := h
  exact ⟨(twS_x (by omega) : _ = σ 0).trans h0,
    (twS_x (by omega) : _ = σ 1).trans h1,
    fun i hi => (h2 i hi).keep (fun k h1 h2 => twS_x (by omega)),
    (twS_x (by omega) : _ = σ 18).trans h3,
    (twS_x (by omega) : _ = σ 19).trans h4,
    h5.keep (fun k h1 h2 => twS_x (by omega)),
    Tat.new,
    h7.keep (fun k h1 h2 => twS_x (by omega)),
    (twS_x (by omega) : _ = σ 35).trans h8,
    (twS_x (by omega) : _ = σ 36).trans h9,
    fun i hi => (h10 i hi).keep (fun k h1 h2 => twS_x (by omega)),
    (twS_x (by omega) : _ = σ 157).trans h11,
    fun i hi => (h12 i hi).keep (fun k h1 h2 => twS_x (by omega)),
    (twS_x (by omega) : _ = σ 168).trans h13,
    (twS_x (by omega) : _ = σ 169).trans h14,
    (twS_x (by omega) : _ = σ 170).trans h15⟩
theorem XR.fore (s : TS) (h : XR σ lf fd rl rn ri tp rd dd d df nx kp da di tr bo ne) : XR (twS σ 30 s) lf fd rl rn ri tp rd dd d s nx kp da di tr bo ne := by
  obtain ⟨h0, h1, h2, h3, h4, h5, h6, h7, h8, h9, h10, h11, h12, h13, h14, h15⟩ := h
  exact ⟨(twS_x (by omega) : _ = σ 0).trans h0,
    (twS_x (by omega) : _ = σ 1).trans h1,
    fun i hi => (h2 i hi).keep (fun k h1 h2 => twS_x (by omega)),
    (twS_x (by omega) : _ = σ 18).trans h3,
    (twS_x (by omega) : _ = σ 19).trans h4,
    h5.keep (fun k h1 h2 => twS_x (by omega)),
    h6.keep (fun k h1 h2 => twS_x (by omega)),
    Tat.new,
    (twS_x (by omega) : _ = σ 35).trans h8,
    (twS_x (by omega) : _ = σ 36).trans h9,
    fun i hi => (h10 i hi).keep (fun k h1 h2 => twS_x (by omega)),
    (twS_x (by omega) : _ = σ 157).trans h11,
    fun i hi => (h12 i hi).keep (fun k h1 h2 => twS_x (by omega)),
    (twS_x (by omega) : _ = σ 168).trans h13,
    (twS_x (by omega) : _ = σ 169).trans h14,
    (twS_x (by omega) : _ = σ 170).trans h15⟩
theorem XR.acts (nx2 kp2 : Nat) (h : XR σ lf fd rl rn ri tp rd dd d df nx kp da di tr bo ne) : XR (ups σ 35 (xA nx2 kp2)) lf fd rl rn ri tp rd dd d df nx2 kp2 da di tr bo ne := by
  obtain ⟨h0, h1, h2, h3, h4, h5, h6, h7, h8, h9, h10, h11, h12, h13, h14, h15⟩ := h
  exact ⟨(ups_x (by omega) : _ = σ 0).trans h0,
    (ups_x (by omega) : _ = σ 1).trans h1,
    fun i hi => (h2 i hi).keep (fun k h1 h2 => ups_x (by omega)),
    (ups_x (by omega) : _ = σ 18).trans h3,
    (ups_x (by omega) : _ = σ 19).trans h4,
    h5.keep (fun k h1 h2 => ups_x (by omega)),
    h6.keep (fun k h1 h2 => ups_x (by omega)),
    h7.keep (fun k h1 h2 => ups_x (by omega)),
    ups_a,
    (ups_x (by omega) : _ = σ 36).trans h9,
    fun i hi => (h10 i hi).keep (fun k h1 h2 => ups_x (by omega)),
    (ups_x (by omega) : _ = σ 157).trans h11,
    fun i hi => (h12 i hi).keep (fun k h1 h2 => ups_x (by omega)),
    (ups_x (by omega) : _ = σ 168).trans h13,
    (ups_x (by omega) : _ = σ 169).trans h14,
    (ups_x (by omega) : _ = σ 170).trans h15⟩
theorem XR.asks (tr2 : Nat) (h : XR σ lf fd rl rn ri tp rd dd d df nx kp da di tr bo ne) : XR (ups σ 168 (xK tr2)) lf fd rl rn ri tp rd dd d df nx kp da di tr2 bo ne := by
  obtain ⟨h0, h1, h2, h3, h4, h5, h6, h7, h8, h9, h10, h11, h12, h13, h14, h15⟩ := h
  exact ⟨(ups_x (by omega) : _ = σ 0).trans h0,
    (ups_x (by omega) : _ = σ 1).trans h1,
    fun i hi => (h2 i hi).keep (fun k h1 h2 => ups_x (by omega)),
    (ups_x (by omega) : _ = σ 18).trans h3,
    (ups_x (by omega) : _ = σ 19).trans h4,
    h5.keep (fun k h1 h2 => ups_x (by omega)),
    h6.keep (fun k h1 h2 => ups_x (by omega)),
    h7.keep (fun k h1 h2 => ups_x (by omega)),
    (ups_x (by omega) : _ = σ 35).trans h8,
    (ups_x (by omega) : _ = σ 36).trans h9,
    fun i hi => (h10 i hi).keep (fun k h1 h2 => ups_x (by omega)),
    (ups_x (by omega) : _ = σ 157).trans h11,
    fun i hi => (h12 i hi).keep (fun k h1 h2 => ups_x (by omega)),
    ups_a,
    (ups_x (by omega) : _ = σ 169).trans h14,
    (ups_x (by omega) : _ = σ 170).trans h15⟩
theorem XR.bods (bo2 : Nat → Int32) (h : XR σ lf fd rl rn ri tp rd dd d df nx kp da di tr bo ne) : XR (ups σ 169 (.inl (0, 16, bo2))) lf fd rl rn ri tp rd dd d df nx kp da di tr bo2 ne := by
  obtain ⟨h0, h1, h2, h3, h4, h5, h6, h7, h8, h9, h10, h11, h12, h13, h14, h15⟩ := h
  exact ⟨(ups_x (by omega) : _ = σ 0).trans h0,
    (ups_x (by omega) : _ = σ 1).trans h1,
    fun i hi => (h2 i hi).keep (fun k h1 h2 => ups_x (by omega)),
    (ups_x (by omega) : _ = σ 18).trans h3,
    (ups_x (by omega) : _ = σ 19).trans h4,
    h5.keep (fun k h1 h2 => ups_x (by omega)),
    h6.keep (fun k h1 h2 => ups_x (by omega)),
    h7.keep (fun k h1 h2 => ups_x (by omega)),
    (ups_x (by omega) : _ = σ 35).trans h8,
    (ups_x (by omega) : _ = σ 36).trans h9,
    fun i hi => (h10 i hi).keep (fun k h1 h2 => ups_x (by omega)),
    (ups_x (by omega) : _ = σ 157).trans h11,
    fun i hi => (h12 i hi).keep (fun k h1 h2 => ups_x (by omega)),
    (ups_x (by omega) : _ = σ 168).trans h13,
    ups_a,
    (ups_x (by omega) : _ = σ 170).trans h15⟩
theorem XR.need (ne2 : Nat → Int32) (h : XR σ lf fd rl rn ri tp rd dd d df nx kp da di tr bo ne) : XR (ups σ 170 (.inl (0, 7, ne2))) lf fd rl rn ri tp rd dd d df nx kp da di tr bo ne2 := by
  obtain ⟨h0, h1, h2, h3, h4, h5, h6, h7, h8, h9, h10, h11, h12, h13, h14, h15⟩ := h
  exact ⟨(ups_x (by omega) : _ = σ 0).trans h0,
    (ups_x (by omega) : _ = σ 1).trans h1,
    fun i hi => (h2 i hi).keep (fun k h1 h2 => ups_x (by omega)),
    (ups_x (by omega) : _ = σ 18).trans h3,
    (ups_x (by omega) : _ = σ 19).trans h4,
    h5.keep (fun k h1 h2 => ups_x (by omega)),
    h6.keep (fun k h1 h2 => ups_x (by omega)),
    h7.keep (fun k h1 h2 => ups_x (by omega)),
    (ups_x (by omega) : _ = σ 35).trans h8,
    (ups_x (by omega) : _ = σ 36).trans h9,
    fun i hi => (h10 i hi).keep (fun k h1 h2 => ups_x (by omega)),
    (ups_x (by omega) : _ = σ 157).trans h11,
    fun i hi => (h12 i hi).keep (fun k h1 h2 => ups_x (by omega)),
    (ups_x (by omega) : _ = σ 168).trans h13,
    (ups_x (by omega) : _ = σ 169).trans h14,
    ups_a⟩
theorem va_up_a {α : Type} {f : Nat → α} {k : Nat} {v : α} : va_up f k v k = v := by simp [va_up]
theorem va_up_x {α : Type} {f : Nat → α} {k j : Nat} {v : α} (h : j ≠ k) : va_up f k v j = f j := by simp [va_up, h]
theorem XR.act (j : Nat) (hj : j < 24) (s : TS) (h : XR σ lf fd rl rn ri tp rd dd d df nx kp da di tr bo ne) : XR (twS σ (37 + 5 * j) s) lf fd rl rn ri tp rd dd d df nx kp (va_up da j s) di tr bo ne := by
  obtain ⟨h0, h1, h2, h3, h4, h5, h6, h7, h8, h9, h10, h11, h12, h13, h14, h15⟩ := h
  exact ⟨(twS_x (by omega) : _ = σ 0).trans h0,
    (twS_x (by omega) : _ = σ 1).trans h1,
    fun i hi => (h2 i hi).keep (fun k h1 h2 => twS_x (by omega)),
    (twS_x (by omega) : _ = σ 18).trans h3,
    (twS_x (by omega) : _ = σ 19).trans h4,
    h5.keep (fun k h1 h2 => twS_x (by omega)),
    h6.keep (fun k h1 h2 => twS_x (by omega)),
    h7.keep (fun k h1 h2 => twS_x (by omega)),
    (twS_x (by omega) : _ = σ 35).trans h8,
    (twS_x (by omega) : _ = σ 36).trans h9,
    (fun i hi => by
      by_cases e : i = j
      · subst e; rw [va_up_a]; exact Tat.new
      · rw [va_up_x e]; exact (h10 i hi).keep (fun k h1 h2 => twS_x (by omega))),
    (twS_x (by omega) : _ = σ 157).trans h11,
    fun i hi => (h12 i hi).keep (fun k h1 h2 => twS_x (by omega)),
    (twS_x (by omega) : _ = σ 168).trans h13,
    (twS_x (by omega) : _ = σ 169).trans h14,
    (twS_x (by omega) : _ = σ 170).trans h15⟩
theorem XR.img (j : Nat) (hj : j < 2) (s : TS) (h : XR σ lf fd rl rn ri tp rd dd d df nx kp da di tr bo ne) : XR (twS σ (158 + 5 * j) s) lf fd rl rn ri tp rd dd d df nx kp da (va_up di j s) tr bo ne := by
  obtain ⟨h0, h1, h2, h3, h4, h5, h6, h7, h8, h9, h10, h11, h12, h13, h14, h15⟩ := h
  exact ⟨(twS_x (by omega) : _ = σ 0).trans h0,
    (twS_x (by omega) : _ = σ 1).trans h1,
    fun i hi => (h2 i hi).keep (fun k h1 h2 => twS_x (by omega)),
    (twS_x (by omega) : _ = σ 18).trans h3,
    (twS_x (by omega) : _ = σ 19).trans h4,
    h5.keep (fun k h1 h2 => twS_x (by omega)),
    h6.keep (fun k h1 h2 => twS_x (by omega)),
    h7.keep (fun k h1 h2 => twS_x (by omega)),
    (twS_x (by omega) : _ = σ 35).trans h8,
    (twS_x (by omega) : _ = σ 36).trans h9,
    fun i hi => (h10 i hi).keep (fun k h1 h2 => twS_x (by omega)),
    (twS_x (by omega) : _ = σ 157).trans h11,
    (fun i hi => by
      by_cases e : i = j
      · subst e; rw [va_up_a]; exact Tat.new
      · rw [va_up_x e]; exact (h12 i hi).keep (fun k h1 h2 => twS_x (by omega))),
    (twS_x (by omega) : _ = σ 168).trans h13,
    (twS_x (by omega) : _ = σ 169).trans h14,
    (twS_x (by omega) : _ = σ 170).trans h15⟩
theorem XR.row (j : Nat) (hj : j < 8) (it : Nat → Int32) (la le : Int32) (h : XR σ lf fd rl rn ri tp rd dd d df nx kp da di tr bo ne) : XR (rw' σ (2 + 2 * j) it la le) lf fd (va_up rl j la) (va_up rn j le) (va_up ri j it) tp rd dd d df nx kp da di tr bo ne := by
  obtain ⟨h0, h1, h2, h3, h4, h5, h6, h7, h8, h9, h10, h11, h12, h13, h14, h15⟩ := h
  exact ⟨(rw_x (by omega) : _ = σ 0).trans h0,
    (rw_x (by omega) : _ = σ 1).trans h1,
    (fun i hi => by
      by_cases e : i = j
      · subst e; rw [va_up_a, va_up_a, va_up_a]; exact Rat.new
      · rw [va_up_x e, va_up_x e, va_up_x e]; exact (h2 i hi).keep (fun k h1 h2 => rw_x (by omega))),
    (rw_x (by omega) : _ = σ 18).trans h3,
    (rw_x (by omega) : _ = σ 19).trans h4,
    h5.keep (fun k h1 h2 => rw_x (by omega)),
    h6.keep (fun k h1 h2 => rw_x (by omega)),
    h7.keep (fun k h1 h2 => rw_x (by omega)),
    (rw_x (by omega) : _ = σ 35).trans h8,
    (rw_x (by omega) : _ = σ 36).trans h9,
    fun i hi => (h10 i hi).keep (fun k h1 h2 => rw_x (by omega)),
    (rw_x (by omega) : _ = σ 157).trans h11,
    fun i hi => (h12 i hi).keep (fun k h1 h2 => rw_x (by omega)),
    (rw_x (by omega) : _ = σ 168).trans h13,
    (rw_x (by omega) : _ = σ 169).trans h14,
    (rw_x (by omega) : _ = σ 170).trans h15⟩
end XRL
section TSV
variable {G : GG} {z : Nat} {σ : AH} {t : Nat} {s : TS}
theorem c_debtOfS (h : Tat σ t s) {a b : Nat} (hab : a * 7 + b < 49) : Ct G yX4_debtOf cX4_debtOf 3 (some .int) 1 0 0 z σ [.ref t, .int (nI a), .int (nI b)] (some (.int (sD s (a * 7 + b)))) z σ := by
  have h2 := c_debtOf G z σ t (sC s) (sI s) (sP s) (sD s) (nI (sN s)) (nI (sU s)) (nI (sR s)) (nI (sQ s)) (sH s) (sF s) hab
  rw [show tw σ t (sC s) (sI s) (sP s) (sD s) (nI (sN s)) (nI (sU s)) (nI (sR s)) (nI (sQ s)) (sH s) (sF s) = σ from h] at h2
  exact h2
theorem c_owedByS (h : Tat σ t s) {p : Nat} (hN : sN s ≤ 7) (hp : p < 7) : Ct G yX4_owedBy cX4_owedBy 4 (some .int) 2 0 0 z σ [.ref t, .int (nI p)] (some (.int (dsum (sD s) (sN s) p))) z σ := by
  have h2 := c_owedBy G z σ t (sC s) (sI s) (sP s) (sD s) (nI (sU s)) (nI (sR s)) (nI (sQ s)) (sH s) (sF s) hN hp
  rw [show tw σ t (sC s) (sI s) (sP s) (sD s) (nI (sN s)) (nI (sU s)) (nI (sR s)) (nI (sQ s)) (sH s) (sF s) = σ from h] at h2
  exact h2
theorem c_owedToS (h : Tat σ t s) {p : Nat} (hN : sN s ≤ 7) (hp : p < 7) : Ct G yX4_owedTo cX4_owedTo 4 (some .int) 2 0 0 z σ [.ref t, .int (nI p)] (some (.int (tsum (sD s) (sN s) p))) z σ := by
  have h2 := c_owedTo G z σ t (sC s) (sI s) (sP s) (sD s) (nI (sU s)) (nI (sR s)) (nI (sQ s)) (sH s) (sF s) hN hp
  rw [show tw σ t (sC s) (sI s) (sP s) (sD s) (nI (sN s)) (nI (sU s)) (nI (sR s)) (nI (sQ s)) (sH s) (sF s) = σ from h] at h2
  exact h2
theorem c_shadeOfS (h : Tat σ t s) {p : Nat} (hN : sN s ≤ 7) (hp : p < 7) (hu : 1 ≤ sU s) (hu2 : sU s ≤ 20) : Ct G yX4_shadeOf cX4_shadeOf 2 (some .int) 3 0 0 z σ [.ref t, .int (nI p)] (some (.int (shd (sD s) (sN s) (sU s) p))) z σ := by
  have h2 := c_shadeOf G z σ t (sC s) (sI s) (sP s) (sD s) (nI (sR s)) (nI (sQ s)) (sH s) (sF s) hN hp hu hu2
  rw [show tw σ t (sC s) (sI s) (sP s) (sD s) (nI (sN s)) (nI (sU s)) (nI (sR s)) (nI (sQ s)) (sH s) (sF s) = σ from h] at h2
  exact h2
theorem c_looksOfS (h : Tat σ t s) {p : Nat} (hN : sN s ≤ 7) (hp : p < 7) (hu : 1 ≤ sU s) (hu2 : sU s ≤ 20) : Ct G yX4_looksOf cX4_looksOf 2 (some .int) 4 0 0 z σ [.ref t, .int (nI p)] (some (.int (lks (sP s) (sD s) (sN s) (sU s) p))) z σ := by
  have h2 := c_looksOf G z σ t (sC s) (sI s) (sP s) (sD s) (nI (sR s)) (nI (sQ s)) (sH s) (sF s) hN hp hu hu2
  rw [show tw σ t (sC s) (sI s) (sP s) (sD s) (nI (sN s)) (nI (sU s)) (nI (sR s)) (nI (sQ s)) (sH s) (sF s) = σ from h] at h2
  exact h2
theorem c_kindOfS (h : Tat σ t s) {p : Nat} (hN : sN s ≤ 7) (hp : p < 7) (hu : 1 ≤ sU s) (hu2 : sU s ≤ 20) : Ct G yX4_kindOf cX4_kindOf 2 (some .int) 4 0 0 z σ [.ref t, .int (nI p)] (some (.int (kindI (sD s) (sF s) (sN s) (sU s) p))) z σ := by
  have h2 := c_kindOf G z σ t (sC s) (sI s) (sP s) (sD s) (nI (sR s)) (nI (sQ s)) (sH s) (sF s) hN hp hu hu2
  rw [show tw σ t (sC s) (sI s) (sP s) (sD s) (nI (sN s)) (nI (sU s)) (nI (sR s)) (nI (sQ s)) (sH s) (sF s) = σ from h] at h2
  exact h2
theorem c_cashOfAllS (h : Tat σ t s) (hN : sN s ≤ 7) : Ct G yX4_cashOfAll cX4_cashOfAll 3 (some .int) 1 0 0 z σ [.ref t] (some (.int (sumR (sC s) (sN s)))) z σ := by
  have h2 := c_cashOfAll G z σ t (sC s) (sI s) (sP s) (sD s) (nI (sU s)) (nI (sR s)) (nI (sQ s)) (sH s) (sF s) hN
  rw [show tw σ t (sC s) (sI s) (sP s) (sD s) (nI (sN s)) (nI (sU s)) (nI (sR s)) (nI (sQ s)) (sH s) (sF s) = σ from h] at h2
  exact h2
theorem c_debtsAboveNoneS (h : Tat σ t s) (hN : sN s ≤ 7) : Ct G yX4_debtsAboveNone cX4_debtsAboveNone 4 (some .int) 2 0 0 z σ [.ref t] (some (.int (nI (cntDs (sD s) (sN s) (sN s))))) z σ := by
  have h2 := c_debtsAboveNone G z σ t (sC s) (sI s) (sP s) (sD s) (nI (sU s)) (nI (sR s)) (nI (sQ s)) (sH s) (sF s) hN
  rw [show tw σ t (sC s) (sI s) (sP s) (sD s) (nI (sN s)) (nI (sU s)) (nI (sR s)) (nI (sQ s)) (sH s) (sF s) = σ from h] at h2
  exact h2
theorem c_seenFromS (h : Tat σ t s) (x : Int32) (hN : sN s ≤ 7) (hu : 1 ≤ sU s) (hu2 : sU s ≤ 20) : Ct G yX4_seenFrom cX4_seenFrom 4 (some .int) 5 0 0 z σ [.ref t, .int x] (some (.int (seenI (sP s) (sD s) (sH s) x (sN s) (sU s) (sN s)))) z σ := by
  have h2 := c_seenFrom G z σ t (sC s) (sI s) (sP s) (sD s) (nI (sR s)) (nI (sQ s)) (sH s) (sF s) x hN hu hu2
  rw [show tw σ t (sC s) (sI s) (sP s) (sD s) (nI (sN s)) (nI (sU s)) (nI (sR s)) (nI (sQ s)) (sH s) (sF s) = σ from h] at h2
  exact h2
theorem c_lendersOfS (h : Tat σ t s) (so : Int32) (hN : sN s ≤ 7) : Ct G yX4_lendersOf cX4_lendersOf 5 (some .int) 2 0 0 z σ [.ref t, .int so] (some (.int (lendA (sD s) so (sN s) (sN s)))) z σ := by
  have h2 := c_lendersOf G z σ t (sC s) (sI s) (sP s) (sD s) (nI (sU s)) (nI (sR s)) (nI (sQ s)) (sH s) (sF s) so hN
  rw [show tw σ t (sC s) (sI s) (sP s) (sD s) (nI (sN s)) (nI (sU s)) (nI (sR s)) (nI (sQ s)) (sH s) (sF s) = σ from h] at h2
  exact h2
theorem c_lendsS (h : Tat σ t s) {a b : Nat} (x : Int32) (ha : a < 7) (hb : b < 7) : Ct G yX4_lends cX4_lends 4 none 2 0 0 z σ [.ref t, .int (nI a), .int (nI b), .int x] none z (twS σ t (pbC (sC s) a b x, sI s, sP s, upd (sD s) (b * 7 + a) (sD s (b * 7 + a) + x), sN s, sU s, sR s, sQ s, sH s, sF s)) := by
  have h2 := c_lends G z σ t (sC s) (sI s) (sP s) (sD s) (nI (sN s)) (nI (sU s)) (nI (sR s)) (nI (sQ s)) (sH s) (sF s) x ha hb
  rw [show tw σ t (sC s) (sI s) (sP s) (sD s) (nI (sN s)) (nI (sU s)) (nI (sR s)) (nI (sQ s)) (sH s) (sF s) = σ from h] at h2
  exact h2
theorem c_paysBackS (h : Tat σ t s) {a b : Nat} (x : Int32) (ha : a < 7) (hb : b < 7) : Ct G yX4_paysBack cX4_paysBack 4 none 2 0 0 z σ [.ref t, .int (nI a), .int (nI b), .int x] none z (twS σ t (pbC (sC s) a b x, sI s, sP s, upd (sD s) (a * 7 + b) (sD s (a * 7 + b) + -x), sN s, sU s, sR s, sQ s, sH s, sF s)) := by
  have h2 := c_paysBack G z σ t (sC s) (sI s) (sP s) (sD s) (nI (sN s)) (nI (sU s)) (nI (sR s)) (nI (sQ s)) (sH s) (sF s) x ha hb
  rw [show tw σ t (sC s) (sI s) (sP s) (sD s) (nI (sN s)) (nI (sU s)) (nI (sR s)) (nI (sQ s)) (sH s) (sF s) = σ from h] at h2
  exact h2
theorem c_settleAllS (h : Tat σ t s) (so : Int32) (hN : sN s ≤ 7) : Ct G yX4_settleAll cX4_settleAll 4 (some .int) 4 0 0 z σ [.ref t, .int so] (some (.int (stA (sN s) so (sC s) (sD s) (sN s)).2.2)) z (twS σ t ((stA (sN s) so (sC s) (sD s) (sN s)).1, sI s, sP s, (stA (sN s) so (sC s) (sD s) (sN s)).2.1, sN s, sU s, sR s, sQ s, sH s, sF s)) := by
  have h2 := c_settleAll G z σ t (sC s) (sI s) (sP s) (sD s) (nI (sU s)) (nI (sR s)) (nI (sQ s)) (sH s) (sF s) so hN
  rw [show tw σ t (sC s) (sI s) (sP s) (sD s) (nI (sN s)) (nI (sU s)) (nI (sR s)) (nI (sQ s)) (sH s) (sF s) = σ from h] at h2
  exact h2
theorem c_strikeOutMutualS (h : Tat σ t s) (hN : sN s ≤ 7) : Ct G yX4_strikeOutMutual cX4_strikeOutMutual 5 (some .int) 2 0 0 z σ [.ref t] (some (.int (strA (sN s) (sD s) (sN s)).2)) z (twS σ t (sC s, sI s, sP s, (strA (sN s) (sD s) (sN s)).1, sN s, sU s, sR s, sQ s, sH s, sF s)) := by
  have h2 := c_strikeOutMutual G z σ t (sC s) (sI s) (sP s) (sD s) (nI (sU s)) (nI (sR s)) (nI (sQ s)) (sH s) (sF s) hN
  rw [show tw σ t (sC s) (sI s) (sP s) (sD s) (nI (sN s)) (nI (sU s)) (nI (sR s)) (nI (sQ s)) (sH s) (sF s) = σ from h] at h2
  exact h2
theorem c_passQuarterS (h : Tat σ t s) (seed : Int32) (hN : sN s ≤ 7) (hinc : ∀ p, p < 7 → 0 ≤ sI s p ∧ ¬ (sI s p + nI 1).toInt64 = 0) : Ct G yX4_passQuarter cX4_passQuarter 3 none 5 0 0 z σ [.ref t, .int seed] none z (twS σ t ((qua (sN s) seed (sI s) (sC s) (sD s) (nI (sU s)) (nI (sR s)) (sQ s) (sF s)).1, sI s, fil (-1) (sP s) (sN s), (qua (sN s) seed (sI s) (sC s) (sD s) (nI (sU s)) (nI (sR s)) (sQ s) (sF s)).2.1, sN s, sU s, sR s, sQ s + 1, sH s, (qua (sN s) seed (sI s) (sC s) (sD s) (nI (sU s)) (nI (sR s)) (sQ s) (sF s)).2.2)) := by
  have h2 := c_passQuarter (q := sQ s) G z σ t (sC s) (sI s) (sP s) (sD s) (nI (sU s)) (nI (sR s)) (sH s) (sF s) seed hN hinc
  rw [show tw σ t (sC s) (sI s) (sP s) (sD s) (nI (sN s)) (nI (sU s)) (nI (sR s)) (nI (sQ s)) (sH s) (sF s) = σ from h] at h2
  exact h2
theorem c_becomesEmptyS (h : Tat σ t s)  : Ct G yX4_becomesEmpty cX4_becomesEmpty 2 none 1 0 0 z σ [.ref t] none z (twS σ t (sC s, sI s, sP s, fun _ => nI 0, 0, 1, 0, 0, nI 0, nI 0)) := by
  have h2 := c_becomesEmpty G z σ t (sC s) (sI s) (sP s) (sD s) (nI (sN s)) (nI (sU s)) (nI (sR s)) (nI (sQ s)) (sH s) (sF s)
  rw [show tw σ t (sC s) (sI s) (sP s) (sD s) (nI (sN s)) (nI (sU s)) (nI (sR s)) (nI (sQ s)) (sH s) (sF s) = σ from h] at h2
  exact h2
theorem c_settlesInS (h : Tat σ t s) (c i b : Int32) (hN : sN s < 7) : Ct G yX4_settlesIn cX4_settlesIn 4 none 1 0 0 z σ [.ref t, .int c, .int i, .int b] none z (twS σ t (upd (sC s) (sN s) c, upd (sI s) (sN s) i, upd (sP s) (sN s) (-1), sD s, sN s + 1, sU s, sR s, sQ s, (if b = 0 then sH s else orI (sH s) (sN s)), sF s)) := by
  have h2 := c_settlesIn G z σ t (sC s) (sI s) (sP s) (sD s) (nI (sU s)) (nI (sR s)) (nI (sQ s)) (sH s) (sF s) c i b hN
  rw [show tw σ t (sC s) (sI s) (sP s) (sD s) (nI (sN s)) (nI (sU s)) (nI (sR s)) (nI (sQ s)) (sH s) (sF s) = σ from h] at h2
  exact h2
theorem c_owesMoreS (h : Tat σ t s) {a b : Nat} (x : Int32) (hab : a * 7 + b < 49) : Ct G yX4_owesMore cX4_owesMore 4 none 1 0 0 z σ [.ref t, .int (nI a), .int (nI b), .int x] none z (twS σ t (sC s, sI s, sP s, upd (sD s) (a * 7 + b) (sD s (a * 7 + b) + x), sN s, sU s, sR s, sQ s, sH s, sF s)) := by
  have h2 := c_owesMore G z σ t (sC s) (sI s) (sP s) (sD s) (nI (sN s)) (nI (sU s)) (nI (sR s)) (nI (sQ s)) (sH s) (sF s) x hab
  rw [show tw σ t (sC s) (sI s) (sP s) (sD s) (nI (sN s)) (nI (sU s)) (nI (sR s)) (nI (sQ s)) (sH s) (sF s) = σ from h] at h2
  exact h2
theorem c_becomesS {t2 : Nat} {s2 : TS} (h : Tat σ t s) (h2 : Tat σ t2 s2) (hs : t2 + 4 < t ∨ t + 4 < t2) : Ct G yX4_becomes cX4_becomes 2 none 1 0 0 z σ [.ref t, .ref t2] none z (twS σ t s2) := by
  have h3 := c_becomes G z σ t (sC s) (sI s) (sP s) (sD s) (nI (sN s)) (nI (sU s)) (nI (sR s)) (nI (sQ s)) (sH s) (sF s) t2 (sC s2) (sI s2) (sP s2) (sD s2) (nI (sN s2)) (nI (sU s2)) (nI (sR s2)) (nI (sQ s2)) (sH s2) (sF s2) hs
  rw [show tw σ t2 (sC s2) (sI s2) (sP s2) (sD s2) (nI (sN s2)) (nI (sU s2)) (nI (sR s2)) (nI (sQ s2)) (sH s2) (sF s2) = σ from h2, show tw σ t (sC s) (sI s) (sP s) (sD s) (nI (sN s)) (nI (sU s)) (nI (sR s)) (nI (sQ s)) (sH s) (sF s) = σ from h] at h3
  exact h3
end TSV

/-! THE MODEL: its heap (printed by wip/tools/mkmodel.py) -/
abbrev xM (i0 i1 i2 i3 i4 i5 i6 i7 i8 i9 i10 i11 : Int32) : AE := .inr (.inr (6, [.ref 172, .ref 173, .ref 174, .ref 175, .ref 176, .int i0, .int i1, .int i2, .ref 177, .ref 178, .ref 179, .ref 180, .int i3, .int i4, .int i5, .int i6, .int i7, .int i8, .int i9, .ref 181, .ref 182, .int i10, .ref 183, .int i11]))
def mH (σ : AH) (a0 a1 a2 a3 a4 a5 a6 a7 a8 a9 a10 a11 : Nat → Int32) (i0 i1 i2 i3 i4 i5 i6 i7 i8 i9 i10 i11 : Int32) : AH := fun k => if k = 171 then some (xM i0 i1 i2 i3 i4 i5 i6 i7 i8 i9 i10 i11) else if k = 172 then some (.inl (0, 96, a0)) else if k = 173 then some (.inl (0, 96, a1)) else if k = 174 then some (.inl (0, 192, a2)) else if k = 175 then some (.inl (2, 2, a3)) else if k = 176 then some (.inl (0, 2304, a4)) else if k = 177 then some (.inl (0, 8, a5)) else if k = 178 then some (.inl (0, 8, a6)) else if k = 179 then some (.inl (0, 320, a7)) else if k = 180 then some (.inl (0, 400, a8)) else if k = 181 then some (.inl (0, 6, a9)) else if k = 182 then some (.inl (0, 7, a10)) else if k = 183 then some (.inl (0, 16, a11)) else σ k
section MH
variable {σ : AH} {a0 a1 a2 a3 a4 a5 a6 a7 a8 a9 a10 a11 f : Nat → Int32} {i0 i1 i2 i3 i4 i5 i6 i7 i8 i9 i10 i11 x : Int32}
theorem mH_o : mH σ a0 a1 a2 a3 a4 a5 a6 a7 a8 a9 a10 a11 i0 i1 i2 i3 i4 i5 i6 i7 i8 i9 i10 i11 171 = some (.inr (.inr (6, [.ref 172, .ref 173, .ref 174, .ref 175, .ref 176, .int i0, .int i1, .int i2, .ref 177, .ref 178, .ref 179, .ref 180, .int i3, .int i4, .int i5, .int i6, .int i7, .int i8, .int i9, .ref 181, .ref 182, .int i10, .ref 183, .int i11]))) := rfl
theorem mH_a0 : mH σ a0 a1 a2 a3 a4 a5 a6 a7 a8 a9 a10 a11 i0 i1 i2 i3 i4 i5 i6 i7 i8 i9 i10 i11 172 = some (.inl (0, 96, a0)) := rfl
theorem mH_a1 : mH σ a0 a1 a2 a3 a4 a5 a6 a7 a8 a9 a10 a11 i0 i1 i2 i3 i4 i5 i6 i7 i8 i9 i10 i11 173 = some (.inl (0, 96, a1)) := rfl
theorem mH_a2 : mH σ a0 a1 a2 a3 a4 a5 a6 a7 a8 a9 a10 a11 i0 i1 i2 i3 i4 i5 i6 i7 i8 i9 i10 i11 174 = some (.inl (0, 192, a2)) := rfl
theorem mH_a3 : mH σ a0 a1 a2 a3 a4 a5 a6 a7 a8 a9 a10 a11 i0 i1 i2 i3 i4 i5 i6 i7 i8 i9 i10 i11 175 = some (.inl (2, 2, a3)) := rfl
theorem mH_a4 : mH σ a0 a1 a2 a3 a4 a5 a6 a7 a8 a9 a10 a11 i0 i1 i2 i3 i4 i5 i6 i7 i8 i9 i10 i11 176 = some (.inl (0, 2304, a4)) := rfl
theorem mH_a5 : mH σ a0 a1 a2 a3 a4 a5 a6 a7 a8 a9 a10 a11 i0 i1 i2 i3 i4 i5 i6 i7 i8 i9 i10 i11 177 = some (.inl (0, 8, a5)) := rfl
theorem mH_a6 : mH σ a0 a1 a2 a3 a4 a5 a6 a7 a8 a9 a10 a11 i0 i1 i2 i3 i4 i5 i6 i7 i8 i9 i10 i11 178 = some (.inl (0, 8, a6)) := rfl
theorem mH_a7 : mH σ a0 a1 a2 a3 a4 a5 a6 a7 a8 a9 a10 a11 i0 i1 i2 i3 i4 i5 i6 i7 i8 i9 i10 i11 179 = some (.inl (0, 320, a7)) := rfl
theorem mH_a8 : mH σ a0 a1 a2 a3 a4 a5 a6 a7 a8 a9 a10 a11 i0 i1 i2 i3 i4 i5 i6 i7 i8 i9 i10 i11 180 = some (.inl (0, 400, a8)) := rfl
theorem mH_a9 : mH σ a0 a1 a2 a3 a4 a5 a6 a7 a8 a9 a10 a11 i0 i1 i2 i3 i4 i5 i6 i7 i8 i9 i10 i11 181 = some (.inl (0, 6, a9)) := rfl
theorem mH_a10 : mH σ a0 a1 a2 a3 a4 a5 a6 a7 a8 a9 a10 a11 i0 i1 i2 i3 i4 i5 i6 i7 i8 i9 i10 i11 182 = some (.inl (0, 7, a10)) := rfl
theorem mH_a11 : mH σ a0 a1 a2 a3 a4 a5 a6 a7 a8 a9 a10 a11 i0 i1 i2 i3 i4 i5 i6 i7 i8 i9 i10 i11 183 = some (.inl (0, 16, a11)) := rfl
theorem mH_x {k : Nat} (h : k < 171 ∨ 183 < k) : mH σ a0 a1 a2 a3 a4 a5 a6 a7 a8 a9 a10 a11 i0 i1 i2 i3 i4 i5 i6 i7 i8 i9 i10 i11 k = σ k := by
  unfold mH
  rw [if_neg (by omega), if_neg (by omega), if_neg (by omega), if_neg (by omega), if_neg (by omega), if_neg (by omega), if_neg (by omega), if_neg (by omega), if_neg (by omega), if_neg (by omega), if_neg (by omega), if_neg (by omega), if_neg (by omega)]
theorem mH_s0 : ups (mH σ a0 a1 a2 a3 a4 a5 a6 a7 a8 a9 a10 a11 i0 i1 i2 i3 i4 i5 i6 i7 i8 i9 i10 i11) 172 (.inl (0, 96, f)) = mH σ f a1 a2 a3 a4 a5 a6 a7 a8 a9 a10 a11 i0 i1 i2 i3 i4 i5 i6 i7 i8 i9 i10 i11 := by
  funext k
  unfold ups
  by_cases h : k = 172
  · subst h; rw [if_pos rfl]; rfl
  · rw [if_neg h]; unfold mH; simp only [if_neg h]
theorem mH_s1 : ups (mH σ a0 a1 a2 a3 a4 a5 a6 a7 a8 a9 a10 a11 i0 i1 i2 i3 i4 i5 i6 i7 i8 i9 i10 i11) 173 (.inl (0, 96, f)) = mH σ a0 f a2 a3 a4 a5 a6 a7 a8 a9 a10 a11 i0 i1 i2 i3 i4 i5 i6 i7 i8 i9 i10 i11 := by
  funext k
  unfold ups
  by_cases h : k = 173
  · subst h; rw [if_pos rfl]; rfl
  · rw [if_neg h]; unfold mH; simp only [if_neg h]
theorem mH_s2 : ups (mH σ a0 a1 a2 a3 a4 a5 a6 a7 a8 a9 a10 a11 i0 i1 i2 i3 i4 i5 i6 i7 i8 i9 i10 i11) 174 (.inl (0, 192, f)) = mH σ a0 a1 f a3 a4 a5 a6 a7 a8 a9 a10 a11 i0 i1 i2 i3 i4 i5 i6 i7 i8 i9 i10 i11 := by
  funext k
  unfold ups
  by_cases h : k = 174
  · subst h; rw [if_pos rfl]; rfl
  · rw [if_neg h]; unfold mH; simp only [if_neg h]
theorem mH_s3 : ups (mH σ a0 a1 a2 a3 a4 a5 a6 a7 a8 a9 a10 a11 i0 i1 i2 i3 i4 i5 i6 i7 i8 i9 i10 i11) 175 (.inl (2, 2, f)) = mH σ a0 a1 a2 f a4 a5 a6 a7 a8 a9 a10 a11 i0 i1 i2 i3 i4 i5 i6 i7 i8 i9 i10 i11 := by
  funext k
  unfold ups
  by_cases h : k = 175
  · subst h; rw [if_pos rfl]; rfl
  · rw [if_neg h]; unfold mH; simp only [if_neg h]
theorem mH_s4 : ups (mH σ a0 a1 a2 a3 a4 a5 a6 a7 a8 a9 a10 a11 i0 i1 i2 i3 i4 i5 i6 i7 i8 i9 i10 i11) 176 (.inl (0, 2304, f)) = mH σ a0 a1 a2 a3 f a5 a6 a7 a8 a9 a10 a11 i0 i1 i2 i3 i4 i5 i6 i7 i8 i9 i10 i11 := by
  funext k
  unfold ups
  by_cases h : k = 176
  · subst h; rw [if_pos rfl]; rfl
  · rw [if_neg h]; unfold mH; simp only [if_neg h]
theorem mH_s5 : ups (mH σ a0 a1 a2 a3 a4 a5 a6 a7 a8 a9 a10 a11 i0 i1 i2 i3 i4 i5 i6 i7 i8 i9 i10 i11) 177 (.inl (0, 8, f)) = mH σ a0 a1 a2 a3 a4 f a6 a7 a8 a9 a10 a11 i0 i1 i2 i3 i4 i5 i6 i7 i8 i9 i10 i11 := by
  funext k
  unfold ups
  by_cases h : k = 177
  · subst h; rw [if_pos rfl]; rfl
  · rw [if_neg h]; unfold mH; simp only [if_neg h]
theorem mH_s6 : ups (mH σ a0 a1 a2 a3 a4 a5 a6 a7 a8 a9 a10 a11 i0 i1 i2 i3 i4 i5 i6 i7 i8 i9 i10 i11) 178 (.inl (0, 8, f)) = mH σ a0 a1 a2 a3 a4 a5 f a7 a8 a9 a10 a11 i0 i1 i2 i3 i4 i5 i6 i7 i8 i9 i10 i11 := by
  funext k
  unfold ups
  by_cases h : k = 178
  · subst h; rw [if_pos rfl]; rfl
  · rw [if_neg h]; unfold mH; simp only [if_neg h]
theorem mH_s7 : ups (mH σ a0 a1 a2 a3 a4 a5 a6 a7 a8 a9 a10 a11 i0 i1 i2 i3 i4 i5 i6 i7 i8 i9 i10 i11) 179 (.inl (0, 320, f)) = mH σ a0 a1 a2 a3 a4 a5 a6 f a8 a9 a10 a11 i0 i1 i2 i3 i4 i5 i6 i7 i8 i9 i10 i11 := by
  funext k
  unfold ups
  by_cases h : k = 179
  · subst h; rw [if_pos rfl]; rfl
  · rw [if_neg h]; unfold mH; simp only [if_neg h]
theorem mH_s8 : ups (mH σ a0 a1 a2 a3 a4 a5 a6 a7 a8 a9 a10 a11 i0 i1 i2 i3 i4 i5 i6 i7 i8 i9 i10 i11) 180 (.inl (0, 400, f)) = mH σ a0 a1 a2 a3 a4 a5 a6 a7 f a9 a10 a11 i0 i1 i2 i3 i4 i5 i6 i7 i8 i9 i10 i11 := by
  funext k
  unfold ups
  by_cases h : k = 180
  · subst h; rw [if_pos rfl]; rfl
  · rw [if_neg h]; unfold mH; simp only [if_neg h]
theorem mH_s9 : ups (mH σ a0 a1 a2 a3 a4 a5 a6 a7 a8 a9 a10 a11 i0 i1 i2 i3 i4 i5 i6 i7 i8 i9 i10 i11) 181 (.inl (0, 6, f)) = mH σ a0 a1 a2 a3 a4 a5 a6 a7 a8 f a10 a11 i0 i1 i2 i3 i4 i5 i6 i7 i8 i9 i10 i11 := by
  funext k
  unfold ups
  by_cases h : k = 181
  · subst h; rw [if_pos rfl]; rfl
  · rw [if_neg h]; unfold mH; simp only [if_neg h]
theorem mH_s10 : ups (mH σ a0 a1 a2 a3 a4 a5 a6 a7 a8 a9 a10 a11 i0 i1 i2 i3 i4 i5 i6 i7 i8 i9 i10 i11) 182 (.inl (0, 7, f)) = mH σ a0 a1 a2 a3 a4 a5 a6 a7 a8 a9 f a11 i0 i1 i2 i3 i4 i5 i6 i7 i8 i9 i10 i11 := by
  funext k
  unfold ups
  by_cases h : k = 182
  · subst h; rw [if_pos rfl]; rfl
  · rw [if_neg h]; unfold mH; simp only [if_neg h]
theorem mH_s11 : ups (mH σ a0 a1 a2 a3 a4 a5 a6 a7 a8 a9 a10 a11 i0 i1 i2 i3 i4 i5 i6 i7 i8 i9 i10 i11) 183 (.inl (0, 16, f)) = mH σ a0 a1 a2 a3 a4 a5 a6 a7 a8 a9 a10 f i0 i1 i2 i3 i4 i5 i6 i7 i8 i9 i10 i11 := by
  funext k
  unfold ups
  by_cases h : k = 183
  · subst h; rw [if_pos rfl]; rfl
  · rw [if_neg h]; unfold mH; simp only [if_neg h]
theorem mH_p0 : ups (mH σ a0 a1 a2 a3 a4 a5 a6 a7 a8 a9 a10 a11 i0 i1 i2 i3 i4 i5 i6 i7 i8 i9 i10 i11) 171 (.inr (.inr (6, [.ref 172, .ref 173, .ref 174, .ref 175, .ref 176, .int x, .int i1, .int i2, .ref 177, .ref 178, .ref 179, .ref 180, .int i3, .int i4, .int i5, .int i6, .int i7, .int i8, .int i9, .ref 181, .ref 182, .int i10, .ref 183, .int i11]))) = mH σ a0 a1 a2 a3 a4 a5 a6 a7 a8 a9 a10 a11 x i1 i2 i3 i4 i5 i6 i7 i8 i9 i10 i11 := by
  funext k
  unfold ups
  by_cases h : k = 171
  · subst h; rw [if_pos rfl]; rfl
  · rw [if_neg h]; unfold mH; simp only [if_neg h]
theorem mH_p1 : ups (mH σ a0 a1 a2 a3 a4 a5 a6 a7 a8 a9 a10 a11 i0 i1 i2 i3 i4 i5 i6 i7 i8 i9 i10 i11) 171 (.inr (.inr (6, [.ref 172, .ref 173, .ref 174, .ref 175, .ref 176, .int i0, .int x, .int i2, .ref 177, .ref 178, .ref 179, .ref 180, .int i3, .int i4, .int i5, .int i6, .int i7, .int i8, .int i9, .ref 181, .ref 182, .int i10, .ref 183, .int i11]))) = mH σ a0 a1 a2 a3 a4 a5 a6 a7 a8 a9 a10 a11 i0 x i2 i3 i4 i5 i6 i7 i8 i9 i10 i11 := by
  funext k
  unfold ups
  by_cases h : k = 171
  · subst h; rw [if_pos rfl]; rfl
  · rw [if_neg h]; unfold mH; simp only [if_neg h]
theorem mH_p2 : ups (mH σ a0 a1 a2 a3 a4 a5 a6 a7 a8 a9 a10 a11 i0 i1 i2 i3 i4 i5 i6 i7 i8 i9 i10 i11) 171 (.inr (.inr (6, [.ref 172, .ref 173, .ref 174, .ref 175, .ref 176, .int i0, .int i1, .int x, .ref 177, .ref 178, .ref 179, .ref 180, .int i3, .int i4, .int i5, .int i6, .int i7, .int i8, .int i9, .ref 181, .ref 182, .int i10, .ref 183, .int i11]))) = mH σ a0 a1 a2 a3 a4 a5 a6 a7 a8 a9 a10 a11 i0 i1 x i3 i4 i5 i6 i7 i8 i9 i10 i11 := by
  funext k
  unfold ups
  by_cases h : k = 171
  · subst h; rw [if_pos rfl]; rfl
  · rw [if_neg h]; unfold mH; simp only [if_neg h]
theorem mH_p3 : ups (mH σ a0 a1 a2 a3 a4 a5 a6 a7 a8 a9 a10 a11 i0 i1 i2 i3 i4 i5 i6 i7 i8 i9 i10 i11) 171 (.inr (.inr (6, [.ref 172, .ref 173, .ref 174, .ref 175, .ref 176, .int i0, .int i1, .int i2, .ref 177, .ref 178, .ref 179, .ref 180, .int x, .int i4, .int i5, .int i6, .int i7, .int i8, .int i9, .ref 181, .ref 182, .int i10, .ref 183, .int i11]))) = mH σ a0 a1 a2 a3 a4 a5 a6 a7 a8 a9 a10 a11 i0 i1 i2 x i4 i5 i6 i7 i8 i9 i10 i11 := by
  funext k
  unfold ups
  by_cases h : k = 171
  · subst h; rw [if_pos rfl]; rfl
  · rw [if_neg h]; unfold mH; simp only [if_neg h]
theorem mH_p4 : ups (mH σ a0 a1 a2 a3 a4 a5 a6 a7 a8 a9 a10 a11 i0 i1 i2 i3 i4 i5 i6 i7 i8 i9 i10 i11) 171 (.inr (.inr (6, [.ref 172, .ref 173, .ref 174, .ref 175, .ref 176, .int i0, .int i1, .int i2, .ref 177, .ref 178, .ref 179, .ref 180, .int i3, .int x, .int i5, .int i6, .int i7, .int i8, .int i9, .ref 181, .ref 182, .int i10, .ref 183, .int i11]))) = mH σ a0 a1 a2 a3 a4 a5 a6 a7 a8 a9 a10 a11 i0 i1 i2 i3 x i5 i6 i7 i8 i9 i10 i11 := by
  funext k
  unfold ups
  by_cases h : k = 171
  · subst h; rw [if_pos rfl]; rfl
  · rw [if_neg h]; unfold mH; simp only [if_neg h]
theorem mH_p5 : ups (mH σ a0 a1 a2 a3 a4 a5 a6 a7 a8 a9 a10 a11 i0 i1 i2 i3 i4 i5 i6 i7 i8 i9 i10 i11) 171 (.inr (.inr (6, [.ref 172, .ref 173, .ref 174, .ref 175, .ref 176, .int i0, .int i1, .int i2, .ref 177, .ref 178, .ref 179, .ref 180, .int i3, .int i4, .int x, .int i6, .int i7, .int i8, .int i9, .ref 181, .ref 182, .int i10, .ref 183, .int i11]))) = mH σ a0 a1 a2 a3 a4 a5 a6 a7 a8 a9 a10 a11 i0 i1 i2 i3 i4 x i6 i7 i8 i9 i10 i11 := by
  funext k
  unfold ups
  by_cases h : k = 171
  · subst h; rw [if_pos rfl]; rfl
  · rw [if_neg h]; unfold mH; simp only [if_neg h]
theorem mH_p6 : ups (mH σ a0 a1 a2 a3 a4 a5 a6 a7 a8 a9 a10 a11 i0 i1 i2 i3 i4 i5 i6 i7 i8 i9 i10 i11) 171 (.inr (.inr (6, [.ref 172, .ref 173, .ref 174, .ref 175, .ref 176, .int i0, .int i1, .int i2, .ref 177, .ref 178, .ref 179, .ref 180, .int i3, .int i4, .int i5, .int x, .int i7, .int i8, .int i9, .ref 181, .ref 182, .int i10, .ref 183, .int i11]))) = mH σ a0 a1 a2 a3 a4 a5 a6 a7 a8 a9 a10 a11 i0 i1 i2 i3 i4 i5 x i7 i8 i9 i10 i11 := by
  funext k
  unfold ups
  by_cases h : k = 171
  · subst h; rw [if_pos rfl]; rfl
  · rw [if_neg h]; unfold mH; simp only [if_neg h]
theorem mH_p7 : ups (mH σ a0 a1 a2 a3 a4 a5 a6 a7 a8 a9 a10 a11 i0 i1 i2 i3 i4 i5 i6 i7 i8 i9 i10 i11) 171 (.inr (.inr (6, [.ref 172, .ref 173, .ref 174, .ref 175, .ref 176, .int i0, .int i1, .int i2, .ref 177, .ref 178, .ref 179, .ref 180, .int i3, .int i4, .int i5, .int i6, .int x, .int i8, .int i9, .ref 181, .ref 182, .int i10, .ref 183, .int i11]))) = mH σ a0 a1 a2 a3 a4 a5 a6 a7 a8 a9 a10 a11 i0 i1 i2 i3 i4 i5 i6 x i8 i9 i10 i11 := by
  funext k
  unfold ups
  by_cases h : k = 171
  · subst h; rw [if_pos rfl]; rfl
  · rw [if_neg h]; unfold mH; simp only [if_neg h]
theorem mH_p8 : ups (mH σ a0 a1 a2 a3 a4 a5 a6 a7 a8 a9 a10 a11 i0 i1 i2 i3 i4 i5 i6 i7 i8 i9 i10 i11) 171 (.inr (.inr (6, [.ref 172, .ref 173, .ref 174, .ref 175, .ref 176, .int i0, .int i1, .int i2, .ref 177, .ref 178, .ref 179, .ref 180, .int i3, .int i4, .int i5, .int i6, .int i7, .int x, .int i9, .ref 181, .ref 182, .int i10, .ref 183, .int i11]))) = mH σ a0 a1 a2 a3 a4 a5 a6 a7 a8 a9 a10 a11 i0 i1 i2 i3 i4 i5 i6 i7 x i9 i10 i11 := by
  funext k
  unfold ups
  by_cases h : k = 171
  · subst h; rw [if_pos rfl]; rfl
  · rw [if_neg h]; unfold mH; simp only [if_neg h]
theorem mH_p9 : ups (mH σ a0 a1 a2 a3 a4 a5 a6 a7 a8 a9 a10 a11 i0 i1 i2 i3 i4 i5 i6 i7 i8 i9 i10 i11) 171 (.inr (.inr (6, [.ref 172, .ref 173, .ref 174, .ref 175, .ref 176, .int i0, .int i1, .int i2, .ref 177, .ref 178, .ref 179, .ref 180, .int i3, .int i4, .int i5, .int i6, .int i7, .int i8, .int x, .ref 181, .ref 182, .int i10, .ref 183, .int i11]))) = mH σ a0 a1 a2 a3 a4 a5 a6 a7 a8 a9 a10 a11 i0 i1 i2 i3 i4 i5 i6 i7 i8 x i10 i11 := by
  funext k
  unfold ups
  by_cases h : k = 171
  · subst h; rw [if_pos rfl]; rfl
  · rw [if_neg h]; unfold mH; simp only [if_neg h]
theorem mH_p10 : ups (mH σ a0 a1 a2 a3 a4 a5 a6 a7 a8 a9 a10 a11 i0 i1 i2 i3 i4 i5 i6 i7 i8 i9 i10 i11) 171 (.inr (.inr (6, [.ref 172, .ref 173, .ref 174, .ref 175, .ref 176, .int i0, .int i1, .int i2, .ref 177, .ref 178, .ref 179, .ref 180, .int i3, .int i4, .int i5, .int i6, .int i7, .int i8, .int i9, .ref 181, .ref 182, .int x, .ref 183, .int i11]))) = mH σ a0 a1 a2 a3 a4 a5 a6 a7 a8 a9 a10 a11 i0 i1 i2 i3 i4 i5 i6 i7 i8 i9 x i11 := by
  funext k
  unfold ups
  by_cases h : k = 171
  · subst h; rw [if_pos rfl]; rfl
  · rw [if_neg h]; unfold mH; simp only [if_neg h]
theorem mH_p11 : ups (mH σ a0 a1 a2 a3 a4 a5 a6 a7 a8 a9 a10 a11 i0 i1 i2 i3 i4 i5 i6 i7 i8 i9 i10 i11) 171 (.inr (.inr (6, [.ref 172, .ref 173, .ref 174, .ref 175, .ref 176, .int i0, .int i1, .int i2, .ref 177, .ref 178, .ref 179, .ref 180, .int i3, .int i4, .int i5, .int i6, .int i7, .int i8, .int i9, .ref 181, .ref 182, .int i10, .ref 183, .int x]))) = mH σ a0 a1 a2 a3 a4 a5 a6 a7 a8 a9 a10 a11 i0 i1 i2 i3 i4 i5 i6 i7 i8 i9 i10 x := by
  funext k
  unfold ups
  by_cases h : k = 171
  · subst h; rw [if_pos rfl]; rfl
  · rw [if_neg h]; unfold mH; simp only [if_neg h]
end MH
theorem XR.mod {σ : AH} {lf fd : Int32} {rl rn : Nat → Int32} {ri : Nat → Nat → Int32} {tp rd : Nat → Int32} {dd d df : TS} {nx kp : Nat} {da di : Nat → TS} {tr : Nat} {bo ne : Nat → Int32} {σ2 : AH} (hk : ∀ k, k < 171 → σ2 k = σ k) (h : XR σ lf fd rl rn ri tp rd dd d df nx kp da di tr bo ne) : XR σ2 lf fd rl rn ri tp rd dd d df nx kp da di tr bo ne := by
  obtain ⟨h0, h1, h2, h3, h4, h5, h6, h7, h8, h9, h10, h11, h12, h13, h14, h15⟩ := h
  exact ⟨(hk 0 (by omega)).trans h0, (hk 1 (by omega)).trans h1, fun i hi => (h2 i hi).keep (fun k h1 h2 => hk k (by omega)), (hk 18 (by omega)).trans h3, (hk 19 (by omega)).trans h4, h5.keep (fun k h1 h2 => hk k (by omega)), h6.keep (fun k h1 h2 => hk k (by omega)), h7.keep (fun k h1 h2 => hk k (by omega)), (hk 35 (by omega)).trans h8, (hk 36 (by omega)).trans h9, fun i hi => (h10 i hi).keep (fun k h1 h2 => hk k (by omega)), (hk 157 (by omega)).trans h11, fun i hi => (h12 i hi).keep (fun k h1 h2 => hk k (by omega)), (hk 168 (by omega)).trans h13, (hk 169 (by omega)).trans h14, (hk 170 (by omega)).trans h15⟩

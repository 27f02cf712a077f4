/-! THE READER: law, people, debts -/
theorem b2I_n {b : Bool} (h : b2I b = 0) : ¬ b = true := by
  rw [b2I_0 h]; decide
abbrev clp (x : Int32) : Nat := x.toNatClampNeg
theorem clp_nI {x : Int32} (h : ¬ x < 0) : x = nI (clp x) := by
  obtain ⟨j, hj, rfl⟩ := nI_of h
  rw [show clp (nI j) = j from nI_clamp hj]
abbrev setU (s : TS) (u : Nat) : TS := (sC s, sI s, sP s, sD s, sN s, u, sR s, sQ s, sH s, sF s)
abbrev setR (s : TS) (u : Nat) : TS := (sC s, sI s, sP s, sD s, sN s, sU s, u, sQ s, sH s, sF s)
theorem ups_sw {σ : AH} {a b : Nat} {x y : AE} (h : a ≠ b) : ups (ups σ a x) b y = ups (ups σ b y) a x := by
  funext k
  unfold ups
  by_cases h1 : k = a
  · subst h1; simp [h]
  · simp [h1]
theorem RH_Tat {σ : AH} {s : TS} {e : AE} : Tat (ups (twS σ 20 s) 18 e) 20 s := Tat.keep Tat.new (fun k h1 h2 => ups_x (by omega))
theorem RH_tw {σ : AH} {s s2 : TS} {e : AE} : twS (ups (twS σ 20 s) 18 e) 20 s2 = ups (twS σ 20 s2) 18 e := by
  funext k
  by_cases h : k < 20 ∨ 20 + 4 < k
  · rw [twS_x h]
    unfold ups
    by_cases h2 : k = 18
    · rw [if_pos h2, if_pos h2]
    · rw [if_neg h2, if_neg h2, twS_x h, twS_x h]
  · have h2 : k ≠ 18 := by omega
    rw [ups_x h2]
    rcases (show k = 20 ∨ k = 20 + 1 ∨ k = 20 + 2 ∨ k = 20 + 3 ∨ k = 20 + 4 by omega) with h3 | h3 | h3 | h3 | h3
    · subst h3; exact (Tat.o Tat.new).trans (Tat.o Tat.new).symm
    · subst h3; exact (Tat.c Tat.new).trans (Tat.c Tat.new).symm
    · subst h3; exact (Tat.i Tat.new).trans (Tat.i Tat.new).symm
    · subst h3; exact (Tat.p Tat.new).trans (Tat.p Tat.new).symm
    · subst h3; exact (Tat.d Tat.new).trans (Tat.d Tat.new).symm
theorem RH_obj {σ : AH} {s : TS} {e : AE} {pe un ra qu hi fa : Int32} (s2 : TS) (h1 : sC s2 = sC s) (h2 : sI s2 = sI s) (h3 : sP s2 = sP s) (h4 : sD s2 = sD s) (e1 : pe = nI (sN s2)) (e2 : un = nI (sU s2)) (e3 : ra = nI (sR s2)) (e4 : qu = nI (sQ s2)) (e5 : hi = sH s2) (e6 : fa = sF s2) : ups (ups (twS σ 20 s) 18 e) 20 (.inr (.inr (4, [.ref (20 + 1), .ref (20 + 2), .ref (20 + 3), .ref (20 + 4), .int pe, .int un, .int ra, .int qu, .int hi, .int fa]))) = ups (twS σ 20 s2) 18 e := by
  rw [ups_sw (by decide)]
  congr 1
  subst e1; subst e2; subst e3; subst e4; subst e5; subst e6
  unfold twS
  rw [h1, h2, h3, h4]
  exact tws_o
/-- sorts stay what they are -/
def sOK (r : RS) : Prop := r.1 ≤ 4
theorem tk_s {tp : Nat → Int32} {len e : Nat} {va : Int32} : (tk tp len e va).1 ≤ 4 := by
  unfold tk
  split
  · show 0 ≤ 4; decide
  · split
    · show 1 ≤ 4; decide
    · split
      · show (if _ then 2 else 4) ≤ 4; split <;> decide
      · show (if _ then 3 else 4) ≤ 4; split <;> decide
theorem tWord_s {tp : Nat → Int32} {len i : Nat} {r : RS} (h : sOK r) : sOK (tWord tp len i r).2 := by
  unfold tWord; split
  · exact tk_s
  · exact h
theorem tSign_s {tp : Nat → Int32} {len : Nat} {r : RS} (h : sOK r) : sOK (tSign tp len r).2 := by
  unfold tSign; split
  · exact tk_s
  · exact h
theorem tNum_s {tp : Nat → Int32} {len : Nat} {lo hi nt : Int32} {r : RS} (h : sOK r) : sOK (tNum tp len lo hi nt r).2 := by
  unfold tNum; split
  · split
    · exact h
    · split
      · exact h
      · split
        · exact h
        · exact tk_s
  · exact h
/-- a number that was taken lies within its bounds -/
theorem tNum_v {tp : Nat → Int32} {len : Nat} {lo hi nt : Int32} {r : RS} (h : (tNum tp len lo hi nt r).1 = true) : ¬ (tNum tp len lo hi nt r).2.2.2.2.2.1 < lo ∧ ¬ hi < (tNum tp len lo hi nt r).2.2.2.2.2.1 ∧ ¬ (tNum tp len lo hi nt r).2.2.2.2.2.1 = nt := by
  unfold tNum at h ⊢
  split
  · rename_i h1
    rw [if_pos h1] at h
    split
    · rename_i h2; rw [if_pos h2] at h; exact absurd (show false = true from h) (by decide)
    · rename_i h2
      rw [if_neg h2] at h
      split
      · rename_i h3; rw [if_pos h3] at h; exact absurd (show false = true from h) (by decide)
      · rename_i h3
        rw [if_neg h3] at h
        split
        · rename_i h4; rw [if_pos h4] at h; exact absurd (show false = true from h) (by decide)
        · rename_i h4
          exact ⟨h2, h3, h4⟩
  · rename_i h1; rw [if_neg h1] at h; exact absurd (show false = true from h) (by decide)
noncomputable def rLaw (tp : Nat → Int32) (len : Nat) (r : RS) (s : TS) : Bool × RS × TS :=
  if (tWord tp len 0 r).1 = true then
    if (tNum tp len (nI 1) (nI 20) (-1) (tWord tp len 0 r).2).1 = true then
      if (tNum tp len (nI 0) (nI 20) (-1) (tNum tp len (nI 1) (nI 20) (-1) (tWord tp len 0 r).2).2).1 = true then ((tSign tp len (tNum tp len (nI 0) (nI 20) (-1) (tNum tp len (nI 1) (nI 20) (-1) (tWord tp len 0 r).2).2).2).1, (tSign tp len (tNum tp len (nI 0) (nI 20) (-1) (tNum tp len (nI 1) (nI 20) (-1) (tWord tp len 0 r).2).2).2).2, setR (setU s (clp (tNum tp len (nI 1) (nI 20) (-1) (tWord tp len 0 r).2).2.2.2.2.2.1)) (clp (tNum tp len (nI 0) (nI 20) (-1) (tNum tp len (nI 1) (nI 20) (-1) (tWord tp len 0 r).2).2).2.2.2.2.2.1))
      else (false, (tNum tp len (nI 0) (nI 20) (-1) (tNum tp len (nI 1) (nI 20) (-1) (tWord tp len 0 r).2).2).2, setU s (clp (tNum tp len (nI 1) (nI 20) (-1) (tWord tp len 0 r).2).2.2.2.2.2.1))
    else (false, (tNum tp len (nI 1) (nI 20) (-1) (tWord tp len 0 r).2).2, s)
  else (false, (tWord tp len 0 r).2, s)
theorem dX2_readsLaw_0 : decode cX2_readsLaw 0 = .ok (.aload_n 0, 1) := by decide +kernel
theorem dX2_readsLaw_1 : decode cX2_readsLaw 1 = .ok (.ldc 49, 2) := by decide +kernel
theorem dX2_readsLaw_3 : decode cX2_readsLaw 3 = .ok (.invokevirtual 51, 3) := by decide +kernel
theorem dX2_readsLaw_6 : decode cX2_readsLaw 6 = .ok (.ifCond .eq 14, 3) := by decide +kernel
theorem dX2_readsLaw_9 : decode cX2_readsLaw 9 = .ok (.aload_n 0, 1) := by decide +kernel
theorem dX2_readsLaw_10 : decode cX2_readsLaw 10 = .ok (.iconst 1, 1) := by decide +kernel
theorem dX2_readsLaw_11 : decode cX2_readsLaw 11 = .ok (.bipush 20, 2) := by decide +kernel
theorem dX2_readsLaw_13 : decode cX2_readsLaw 13 = .ok (.iconst (-1), 1) := by decide +kernel
theorem dX2_readsLaw_14 : decode cX2_readsLaw 14 = .ok (.invokevirtual 55, 3) := by decide +kernel
theorem dX2_readsLaw_17 : decode cX2_readsLaw 17 = .ok (.ifCond .ne 5, 3) := by decide +kernel
theorem dX2_readsLaw_20 : decode cX2_readsLaw 20 = .ok (.iconst 0, 1) := by decide +kernel
theorem dX2_readsLaw_21 : decode cX2_readsLaw 21 = .ok (.ireturn, 1) := by decide +kernel
theorem dX2_readsLaw_22 : decode cX2_readsLaw 22 = .ok (.aload_n 0, 1) := by decide +kernel
theorem dX2_readsLaw_23 : decode cX2_readsLaw 23 = .ok (.getfield 18, 3) := by decide +kernel
theorem dX2_readsLaw_26 : decode cX2_readsLaw 26 = .ok (.aload_n 0, 1) := by decide +kernel
theorem dX2_readsLaw_27 : decode cX2_readsLaw 27 = .ok (.getfield 59, 3) := by decide +kernel
theorem dX2_readsLaw_30 : decode cX2_readsLaw 30 = .ok (.putfield 62, 3) := by decide +kernel
theorem dX2_readsLaw_33 : decode cX2_readsLaw 33 = .ok (.aload_n 0, 1) := by decide +kernel
theorem dX2_readsLaw_34 : decode cX2_readsLaw 34 = .ok (.iconst 0, 1) := by decide +kernel
theorem dX2_readsLaw_35 : decode cX2_readsLaw 35 = .ok (.bipush 20, 2) := by decide +kernel
theorem dX2_readsLaw_37 : decode cX2_readsLaw 37 = .ok (.iconst (-1), 1) := by decide +kernel
theorem dX2_readsLaw_38 : decode cX2_readsLaw 38 = .ok (.invokevirtual 55, 3) := by decide +kernel
theorem dX2_readsLaw_41 : decode cX2_readsLaw 41 = .ok (.ifCond .ne 5, 3) := by decide +kernel
theorem dX2_readsLaw_44 : decode cX2_readsLaw 44 = .ok (.iconst 0, 1) := by decide +kernel
theorem dX2_readsLaw_45 : decode cX2_readsLaw 45 = .ok (.ireturn, 1) := by decide +kernel
theorem dX2_readsLaw_46 : decode cX2_readsLaw 46 = .ok (.aload_n 0, 1) := by decide +kernel
theorem dX2_readsLaw_47 : decode cX2_readsLaw 47 = .ok (.getfield 18, 3) := by decide +kernel
theorem dX2_readsLaw_50 : decode cX2_readsLaw 50 = .ok (.aload_n 0, 1) := by decide +kernel
theorem dX2_readsLaw_51 : decode cX2_readsLaw 51 = .ok (.getfield 59, 3) := by decide +kernel
theorem dX2_readsLaw_54 : decode cX2_readsLaw 54 = .ok (.putfield 65, 3) := by decide +kernel
theorem dX2_readsLaw_57 : decode cX2_readsLaw 57 = .ok (.aload_n 0, 1) := by decide +kernel
theorem dX2_readsLaw_58 : decode cX2_readsLaw 58 = .ok (.invokevirtual 68, 3) := by decide +kernel
theorem dX2_readsLaw_61 : decode cX2_readsLaw 61 = .ok (.ireturn, 1) := by decide +kernel
theorem dX2_readsPeople_0 : decode cX2_readsPeople 0 = .ok (.aload_n 0, 1) := by decide +kernel
theorem dX2_readsPeople_1 : decode cX2_readsPeople 1 = .ok (.ldc 71, 2) := by decide +kernel
theorem dX2_readsPeople_3 : decode cX2_readsPeople 3 = .ok (.invokevirtual 73, 3) := by decide +kernel
theorem dX2_readsPeople_6 : decode cX2_readsPeople 6 = .ok (.ifCond .ne 9, 3) := by decide +kernel
theorem dX2_readsPeople_9 : decode cX2_readsPeople 9 = .ok (.aload_n 0, 1) := by decide +kernel
theorem dX2_readsPeople_10 : decode cX2_readsPeople 10 = .ok (.iconst 1, 1) := by decide +kernel
theorem dX2_readsPeople_11 : decode cX2_readsPeople 11 = .ok (.invokevirtual 45, 3) := by decide +kernel
theorem dX2_readsPeople_14 : decode cX2_readsPeople 14 = .ok (.ireturn, 1) := by decide +kernel
theorem dX2_readsPeople_15 : decode cX2_readsPeople 15 = .ok (.iconst 0, 1) := by decide +kernel
theorem dX2_readsPeople_16 : decode cX2_readsPeople 16 = .ok (.istore_n 1, 1) := by decide +kernel
theorem dX2_readsPeople_17 : decode cX2_readsPeople 17 = .ok (.iload_n 1, 1) := by decide +kernel
theorem dX2_readsPeople_18 : decode cX2_readsPeople 18 = .ok (.bipush 7, 2) := by decide +kernel
theorem dX2_readsPeople_20 : decode cX2_readsPeople 20 = .ok (.if_icmp .ge 27, 3) := by decide +kernel
theorem dX2_readsPeople_23 : decode cX2_readsPeople 23 = .ok (.aload_n 0, 1) := by decide +kernel
theorem dX2_readsPeople_24 : decode cX2_readsPeople 24 = .ok (.ldc 71, 2) := by decide +kernel
theorem dX2_readsPeople_26 : decode cX2_readsPeople 26 = .ok (.invokevirtual 73, 3) := by decide +kernel
theorem dX2_readsPeople_29 : decode cX2_readsPeople 29 = .ok (.ifCond .eq 18, 3) := by decide +kernel
theorem dX2_readsPeople_32 : decode cX2_readsPeople 32 = .ok (.aload_n 0, 1) := by decide +kernel
theorem dX2_readsPeople_33 : decode cX2_readsPeople 33 = .ok (.invokevirtual 76, 3) := by decide +kernel
theorem dX2_readsPeople_36 : decode cX2_readsPeople 36 = .ok (.ifCond .ne 5, 3) := by decide +kernel
theorem dX2_readsPeople_39 : decode cX2_readsPeople 39 = .ok (.iconst 0, 1) := by decide +kernel
theorem dX2_readsPeople_40 : decode cX2_readsPeople 40 = .ok (.ireturn, 1) := by decide +kernel
theorem dX2_readsPeople_41 : decode cX2_readsPeople 41 = .ok (.iinc 1 1, 3) := by decide +kernel
theorem dX2_readsPeople_44 : decode cX2_readsPeople 44 = .ok (.goto (-27), 3) := by decide +kernel
theorem dX2_readsPeople_47 : decode cX2_readsPeople 47 = .ok (.aload_n 0, 1) := by decide +kernel
theorem dX2_readsPeople_48 : decode cX2_readsPeople 48 = .ok (.ldc 71, 2) := by decide +kernel
theorem dX2_readsPeople_50 : decode cX2_readsPeople 50 = .ok (.invokevirtual 73, 3) := by decide +kernel
theorem dX2_readsPeople_53 : decode cX2_readsPeople 53 = .ok (.ifCond .eq 11, 3) := by decide +kernel
theorem dX2_readsPeople_56 : decode cX2_readsPeople 56 = .ok (.aload_n 0, 1) := by decide +kernel
theorem dX2_readsPeople_57 : decode cX2_readsPeople 57 = .ok (.iconst 3, 1) := by decide +kernel
theorem dX2_readsPeople_58 : decode cX2_readsPeople 58 = .ok (.invokevirtual 45, 3) := by decide +kernel
theorem dX2_readsPeople_61 : decode cX2_readsPeople 61 = .ok (.ifCond .eq 7, 3) := by decide +kernel
theorem dX2_readsPeople_64 : decode cX2_readsPeople 64 = .ok (.iconst 1, 1) := by decide +kernel
theorem dX2_readsPeople_65 : decode cX2_readsPeople 65 = .ok (.goto 4, 3) := by decide +kernel
theorem dX2_readsPeople_68 : decode cX2_readsPeople 68 = .ok (.iconst 0, 1) := by decide +kernel
theorem dX2_readsPeople_69 : decode cX2_readsPeople 69 = .ok (.ireturn, 1) := by decide +kernel
theorem dX2_readsPerson_0 : decode cX2_readsPerson 0 = .ok (.aload_n 0, 1) := by decide +kernel
theorem dX2_readsPerson_1 : decode cX2_readsPerson 1 = .ok (.ldc 71, 2) := by decide +kernel
theorem dX2_readsPerson_3 : decode cX2_readsPerson 3 = .ok (.invokevirtual 51, 3) := by decide +kernel
theorem dX2_readsPerson_6 : decode cX2_readsPerson 6 = .ok (.ifCond .eq 15, 3) := by decide +kernel
theorem dX2_readsPerson_9 : decode cX2_readsPerson 9 = .ok (.aload_n 0, 1) := by decide +kernel
theorem dX2_readsPerson_10 : decode cX2_readsPerson 10 = .ok (.iconst 0, 1) := by decide +kernel
theorem dX2_readsPerson_11 : decode cX2_readsPerson 11 = .ok (.sipush 999, 3) := by decide +kernel
theorem dX2_readsPerson_14 : decode cX2_readsPerson 14 = .ok (.iconst (-1), 1) := by decide +kernel
theorem dX2_readsPerson_15 : decode cX2_readsPerson 15 = .ok (.invokevirtual 55, 3) := by decide +kernel
theorem dX2_readsPerson_18 : decode cX2_readsPerson 18 = .ok (.ifCond .ne 5, 3) := by decide +kernel
theorem dX2_readsPerson_21 : decode cX2_readsPerson 21 = .ok (.iconst 0, 1) := by decide +kernel
theorem dX2_readsPerson_22 : decode cX2_readsPerson 22 = .ok (.ireturn, 1) := by decide +kernel
theorem dX2_readsPerson_23 : decode cX2_readsPerson 23 = .ok (.aload_n 0, 1) := by decide +kernel
theorem dX2_readsPerson_24 : decode cX2_readsPerson 24 = .ok (.getfield 59, 3) := by decide +kernel
theorem dX2_readsPerson_27 : decode cX2_readsPerson 27 = .ok (.istore_n 1, 1) := by decide +kernel
theorem dX2_readsPerson_28 : decode cX2_readsPerson 28 = .ok (.aload_n 0, 1) := by decide +kernel
theorem dX2_readsPerson_29 : decode cX2_readsPerson 29 = .ok (.iconst 0, 1) := by decide +kernel
theorem dX2_readsPerson_30 : decode cX2_readsPerson 30 = .ok (.bipush 99, 2) := by decide +kernel
theorem dX2_readsPerson_32 : decode cX2_readsPerson 32 = .ok (.iconst (-1), 1) := by decide +kernel
theorem dX2_readsPerson_33 : decode cX2_readsPerson 33 = .ok (.invokevirtual 55, 3) := by decide +kernel
theorem dX2_readsPerson_36 : decode cX2_readsPerson 36 = .ok (.ifCond .ne 5, 3) := by decide +kernel
theorem dX2_readsPerson_39 : decode cX2_readsPerson 39 = .ok (.iconst 0, 1) := by decide +kernel
theorem dX2_readsPerson_40 : decode cX2_readsPerson 40 = .ok (.ireturn, 1) := by decide +kernel
theorem dX2_readsPerson_41 : decode cX2_readsPerson 41 = .ok (.aload_n 0, 1) := by decide +kernel
theorem dX2_readsPerson_42 : decode cX2_readsPerson 42 = .ok (.getfield 59, 3) := by decide +kernel
theorem dX2_readsPerson_45 : decode cX2_readsPerson 45 = .ok (.istore_n 2, 1) := by decide +kernel
theorem dX2_readsPerson_46 : decode cX2_readsPerson 46 = .ok (.aload_n 0, 1) := by decide +kernel
theorem dX2_readsPerson_47 : decode cX2_readsPerson 47 = .ok (.ldc 79, 2) := by decide +kernel
theorem dX2_readsPerson_49 : decode cX2_readsPerson 49 = .ok (.invokevirtual 73, 3) := by decide +kernel
theorem dX2_readsPerson_52 : decode cX2_readsPerson 52 = .ok (.istore_n 3, 1) := by decide +kernel
theorem dX2_readsPerson_53 : decode cX2_readsPerson 53 = .ok (.aload_n 0, 1) := by decide +kernel
theorem dX2_readsPerson_54 : decode cX2_readsPerson 54 = .ok (.iload_n 3, 1) := by decide +kernel
theorem dX2_readsPerson_55 : decode cX2_readsPerson 55 = .ok (.ifCond .eq 8, 3) := by decide +kernel
theorem dX2_readsPerson_58 : decode cX2_readsPerson 58 = .ok (.ldc 79, 2) := by decide +kernel
theorem dX2_readsPerson_60 : decode cX2_readsPerson 60 = .ok (.goto 5, 3) := by decide +kernel
theorem dX2_readsPerson_63 : decode cX2_readsPerson 63 = .ok (.ldc 81, 2) := by decide +kernel
theorem dX2_readsPerson_65 : decode cX2_readsPerson 65 = .ok (.invokevirtual 51, 3) := by decide +kernel
theorem dX2_readsPerson_68 : decode cX2_readsPerson 68 = .ok (.ifCond .ne 5, 3) := by decide +kernel
theorem dX2_readsPerson_71 : decode cX2_readsPerson 71 = .ok (.iconst 0, 1) := by decide +kernel
theorem dX2_readsPerson_72 : decode cX2_readsPerson 72 = .ok (.ireturn, 1) := by decide +kernel
theorem dX2_readsPerson_73 : decode cX2_readsPerson 73 = .ok (.aload_n 0, 1) := by decide +kernel
theorem dX2_readsPerson_74 : decode cX2_readsPerson 74 = .ok (.getfield 18, 3) := by decide +kernel
theorem dX2_readsPerson_77 : decode cX2_readsPerson 77 = .ok (.iload_n 1, 1) := by decide +kernel
theorem dX2_readsPerson_78 : decode cX2_readsPerson 78 = .ok (.iload_n 2, 1) := by decide +kernel
theorem dX2_readsPerson_79 : decode cX2_readsPerson 79 = .ok (.iload_n 3, 1) := by decide +kernel
theorem dX2_readsPerson_80 : decode cX2_readsPerson 80 = .ok (.invokevirtual 83, 3) := by decide +kernel
theorem dX2_readsPerson_83 : decode cX2_readsPerson 83 = .ok (.aload_n 0, 1) := by decide +kernel
theorem dX2_readsPerson_84 : decode cX2_readsPerson 84 = .ok (.invokevirtual 68, 3) := by decide +kernel
theorem dX2_readsPerson_87 : decode cX2_readsPerson 87 = .ok (.ireturn, 1) := by decide +kernel
theorem dX2_readsDebts_0 : decode cX2_readsDebts 0 = .ok (.iconst 0, 1) := by decide +kernel
theorem dX2_readsDebts_1 : decode cX2_readsDebts 1 = .ok (.istore_n 1, 1) := by decide +kernel
theorem dX2_readsDebts_2 : decode cX2_readsDebts 2 = .ok (.iload_n 1, 1) := by decide +kernel
theorem dX2_readsDebts_3 : decode cX2_readsDebts 3 = .ok (.bipush 20, 2) := by decide +kernel
theorem dX2_readsDebts_5 : decode cX2_readsDebts 5 = .ok (.if_icmp .ge 27, 3) := by decide +kernel
theorem dX2_readsDebts_8 : decode cX2_readsDebts 8 = .ok (.aload_n 0, 1) := by decide +kernel
theorem dX2_readsDebts_9 : decode cX2_readsDebts 9 = .ok (.ldc 87, 2) := by decide +kernel
theorem dX2_readsDebts_11 : decode cX2_readsDebts 11 = .ok (.invokevirtual 73, 3) := by decide +kernel
theorem dX2_readsDebts_14 : decode cX2_readsDebts 14 = .ok (.ifCond .eq 18, 3) := by decide +kernel
theorem dX2_readsDebts_17 : decode cX2_readsDebts 17 = .ok (.aload_n 0, 1) := by decide +kernel
theorem dX2_readsDebts_18 : decode cX2_readsDebts 18 = .ok (.invokevirtual 89, 3) := by decide +kernel
theorem dX2_readsDebts_21 : decode cX2_readsDebts 21 = .ok (.ifCond .ne 5, 3) := by decide +kernel
theorem dX2_readsDebts_24 : decode cX2_readsDebts 24 = .ok (.iconst 0, 1) := by decide +kernel
theorem dX2_readsDebts_25 : decode cX2_readsDebts 25 = .ok (.ireturn, 1) := by decide +kernel
theorem dX2_readsDebts_26 : decode cX2_readsDebts 26 = .ok (.iinc 1 1, 3) := by decide +kernel
theorem dX2_readsDebts_29 : decode cX2_readsDebts 29 = .ok (.goto (-27), 3) := by decide +kernel
theorem dX2_readsDebts_32 : decode cX2_readsDebts 32 = .ok (.aload_n 0, 1) := by decide +kernel
theorem dX2_readsDebts_33 : decode cX2_readsDebts 33 = .ok (.ldc 87, 2) := by decide +kernel
theorem dX2_readsDebts_35 : decode cX2_readsDebts 35 = .ok (.invokevirtual 73, 3) := by decide +kernel
theorem dX2_readsDebts_38 : decode cX2_readsDebts 38 = .ok (.ifCond .eq 11, 3) := by decide +kernel
theorem dX2_readsDebts_41 : decode cX2_readsDebts 41 = .ok (.aload_n 0, 1) := by decide +kernel
theorem dX2_readsDebts_42 : decode cX2_readsDebts 42 = .ok (.iconst 3, 1) := by decide +kernel
theorem dX2_readsDebts_43 : decode cX2_readsDebts 43 = .ok (.invokevirtual 45, 3) := by decide +kernel
theorem dX2_readsDebts_46 : decode cX2_readsDebts 46 = .ok (.ifCond .eq 7, 3) := by decide +kernel
theorem dX2_readsDebts_49 : decode cX2_readsDebts 49 = .ok (.iconst 1, 1) := by decide +kernel
theorem dX2_readsDebts_50 : decode cX2_readsDebts 50 = .ok (.goto 4, 3) := by decide +kernel
theorem dX2_readsDebts_53 : decode cX2_readsDebts 53 = .ok (.iconst 0, 1) := by decide +kernel
theorem dX2_readsDebts_54 : decode cX2_readsDebts 54 = .ok (.ireturn, 1) := by decide +kernel
theorem dX2_readsDebt_0 : decode cX2_readsDebt 0 = .ok (.aload_n 0, 1) := by decide +kernel
theorem dX2_readsDebt_1 : decode cX2_readsDebt 1 = .ok (.ldc 87, 2) := by decide +kernel
theorem dX2_readsDebt_3 : decode cX2_readsDebt 3 = .ok (.invokevirtual 51, 3) := by decide +kernel
theorem dX2_readsDebt_6 : decode cX2_readsDebt 6 = .ok (.ifCond .eq 21, 3) := by decide +kernel
theorem dX2_readsDebt_9 : decode cX2_readsDebt 9 = .ok (.aload_n 0, 1) := by decide +kernel
theorem dX2_readsDebt_10 : decode cX2_readsDebt 10 = .ok (.iconst 0, 1) := by decide +kernel
theorem dX2_readsDebt_11 : decode cX2_readsDebt 11 = .ok (.aload_n 0, 1) := by decide +kernel
theorem dX2_readsDebt_12 : decode cX2_readsDebt 12 = .ok (.getfield 18, 3) := by decide +kernel
theorem dX2_readsDebt_15 : decode cX2_readsDebt 15 = .ok (.getfield 92, 3) := by decide +kernel
theorem dX2_readsDebt_18 : decode cX2_readsDebt 18 = .ok (.iconst 1, 1) := by decide +kernel
theorem dX2_readsDebt_19 : decode cX2_readsDebt 19 = .ok (.isub, 1) := by decide +kernel
theorem dX2_readsDebt_20 : decode cX2_readsDebt 20 = .ok (.iconst (-1), 1) := by decide +kernel
theorem dX2_readsDebt_21 : decode cX2_readsDebt 21 = .ok (.invokevirtual 55, 3) := by decide +kernel
theorem dX2_readsDebt_24 : decode cX2_readsDebt 24 = .ok (.ifCond .ne 5, 3) := by decide +kernel
theorem dX2_readsDebt_27 : decode cX2_readsDebt 27 = .ok (.iconst 0, 1) := by decide +kernel
theorem dX2_readsDebt_28 : decode cX2_readsDebt 28 = .ok (.ireturn, 1) := by decide +kernel
theorem dX2_readsDebt_29 : decode cX2_readsDebt 29 = .ok (.aload_n 0, 1) := by decide +kernel
theorem dX2_readsDebt_30 : decode cX2_readsDebt 30 = .ok (.getfield 59, 3) := by decide +kernel
theorem dX2_readsDebt_33 : decode cX2_readsDebt 33 = .ok (.istore_n 1, 1) := by decide +kernel
theorem dX2_readsDebt_34 : decode cX2_readsDebt 34 = .ok (.aload_n 0, 1) := by decide +kernel
theorem dX2_readsDebt_35 : decode cX2_readsDebt 35 = .ok (.iconst 0, 1) := by decide +kernel
theorem dX2_readsDebt_36 : decode cX2_readsDebt 36 = .ok (.aload_n 0, 1) := by decide +kernel
theorem dX2_readsDebt_37 : decode cX2_readsDebt 37 = .ok (.getfield 18, 3) := by decide +kernel
theorem dX2_readsDebt_40 : decode cX2_readsDebt 40 = .ok (.getfield 92, 3) := by decide +kernel
theorem dX2_readsDebt_43 : decode cX2_readsDebt 43 = .ok (.iconst 1, 1) := by decide +kernel
theorem dX2_readsDebt_44 : decode cX2_readsDebt 44 = .ok (.isub, 1) := by decide +kernel
theorem dX2_readsDebt_45 : decode cX2_readsDebt 45 = .ok (.iload_n 1, 1) := by decide +kernel
theorem dX2_readsDebt_46 : decode cX2_readsDebt 46 = .ok (.invokevirtual 55, 3) := by decide +kernel
theorem dX2_readsDebt_49 : decode cX2_readsDebt 49 = .ok (.ifCond .ne 5, 3) := by decide +kernel
theorem dX2_readsDebt_52 : decode cX2_readsDebt 52 = .ok (.iconst 0, 1) := by decide +kernel
theorem dX2_readsDebt_53 : decode cX2_readsDebt 53 = .ok (.ireturn, 1) := by decide +kernel
theorem dX2_readsDebt_54 : decode cX2_readsDebt 54 = .ok (.aload_n 0, 1) := by decide +kernel
theorem dX2_readsDebt_55 : decode cX2_readsDebt 55 = .ok (.getfield 59, 3) := by decide +kernel
theorem dX2_readsDebt_58 : decode cX2_readsDebt 58 = .ok (.istore_n 2, 1) := by decide +kernel
theorem dX2_readsDebt_59 : decode cX2_readsDebt 59 = .ok (.aload_n 0, 1) := by decide +kernel
theorem dX2_readsDebt_60 : decode cX2_readsDebt 60 = .ok (.iconst 1, 1) := by decide +kernel
theorem dX2_readsDebt_61 : decode cX2_readsDebt 61 = .ok (.sipush 999, 3) := by decide +kernel
theorem dX2_readsDebt_64 : decode cX2_readsDebt 64 = .ok (.iconst (-1), 1) := by decide +kernel
theorem dX2_readsDebt_65 : decode cX2_readsDebt 65 = .ok (.invokevirtual 55, 3) := by decide +kernel
theorem dX2_readsDebt_68 : decode cX2_readsDebt 68 = .ok (.ifCond .ne 5, 3) := by decide +kernel
theorem dX2_readsDebt_71 : decode cX2_readsDebt 71 = .ok (.iconst 0, 1) := by decide +kernel
theorem dX2_readsDebt_72 : decode cX2_readsDebt 72 = .ok (.ireturn, 1) := by decide +kernel
theorem dX2_readsDebt_73 : decode cX2_readsDebt 73 = .ok (.aload_n 0, 1) := by decide +kernel
theorem dX2_readsDebt_74 : decode cX2_readsDebt 74 = .ok (.getfield 18, 3) := by decide +kernel
theorem dX2_readsDebt_77 : decode cX2_readsDebt 77 = .ok (.iload_n 1, 1) := by decide +kernel
theorem dX2_readsDebt_78 : decode cX2_readsDebt 78 = .ok (.iload_n 2, 1) := by decide +kernel
theorem dX2_readsDebt_79 : decode cX2_readsDebt 79 = .ok (.aload_n 0, 1) := by decide +kernel
theorem dX2_readsDebt_80 : decode cX2_readsDebt 80 = .ok (.getfield 59, 3) := by decide +kernel
theorem dX2_readsDebt_83 : decode cX2_readsDebt 83 = .ok (.invokevirtual 95, 3) := by decide +kernel
theorem dX2_readsDebt_86 : decode cX2_readsDebt 86 = .ok (.aload_n 0, 1) := by decide +kernel
theorem dX2_readsDebt_87 : decode cX2_readsDebt 87 = .ok (.invokevirtual 68, 3) := by decide +kernel
theorem dX2_readsDebt_90 : decode cX2_readsDebt 90 = .ok (.ireturn, 1) := by decide +kernel
theorem dX2_readsTown_0 : decode cX2_readsTown 0 = .ok (.aload_n 0, 1) := by decide +kernel
theorem dX2_readsTown_1 : decode cX2_readsTown 1 = .ok (.iconst 0, 1) := by decide +kernel
theorem dX2_readsTown_2 : decode cX2_readsTown 2 = .ok (.putfield 22, 3) := by decide +kernel
theorem dX2_readsTown_5 : decode cX2_readsTown 5 = .ok (.aload_n 0, 1) := by decide +kernel
theorem dX2_readsTown_6 : decode cX2_readsTown 6 = .ok (.getfield 18, 3) := by decide +kernel
theorem dX2_readsTown_9 : decode cX2_readsTown 9 = .ok (.invokevirtual 26, 3) := by decide +kernel
theorem dX2_readsTown_12 : decode cX2_readsTown 12 = .ok (.aload_n 0, 1) := by decide +kernel
theorem dX2_readsTown_13 : decode cX2_readsTown 13 = .ok (.invokevirtual 29, 3) := by decide +kernel
theorem dX2_readsTown_16 : decode cX2_readsTown 16 = .ok (.aload_n 0, 1) := by decide +kernel
theorem dX2_readsTown_17 : decode cX2_readsTown 17 = .ok (.invokevirtual 32, 3) := by decide +kernel
theorem dX2_readsTown_20 : decode cX2_readsTown 20 = .ok (.ifCond .eq 17, 3) := by decide +kernel
theorem dX2_readsTown_23 : decode cX2_readsTown 23 = .ok (.aload_n 0, 1) := by decide +kernel
theorem dX2_readsTown_24 : decode cX2_readsTown 24 = .ok (.invokevirtual 36, 3) := by decide +kernel
theorem dX2_readsTown_27 : decode cX2_readsTown 27 = .ok (.ifCond .eq 10, 3) := by decide +kernel
theorem dX2_readsTown_30 : decode cX2_readsTown 30 = .ok (.aload_n 0, 1) := by decide +kernel
theorem dX2_readsTown_31 : decode cX2_readsTown 31 = .ok (.invokevirtual 39, 3) := by decide +kernel
theorem dX2_readsTown_34 : decode cX2_readsTown 34 = .ok (.ifCond .ne 5, 3) := by decide +kernel
theorem dX2_readsTown_37 : decode cX2_readsTown 37 = .ok (.iconst 0, 1) := by decide +kernel
theorem dX2_readsTown_38 : decode cX2_readsTown 38 = .ok (.ireturn, 1) := by decide +kernel
theorem dX2_readsTown_39 : decode cX2_readsTown 39 = .ok (.aload_n 0, 1) := by decide +kernel
theorem dX2_readsTown_40 : decode cX2_readsTown 40 = .ok (.getfield 42, 3) := by decide +kernel
theorem dX2_readsTown_43 : decode cX2_readsTown 43 = .ok (.ifCond .eq 11, 3) := by decide +kernel
theorem dX2_readsTown_46 : decode cX2_readsTown 46 = .ok (.aload_n 0, 1) := by decide +kernel
theorem dX2_readsTown_47 : decode cX2_readsTown 47 = .ok (.iconst 1, 1) := by decide +kernel
theorem dX2_readsTown_48 : decode cX2_readsTown 48 = .ok (.invokevirtual 45, 3) := by decide +kernel
theorem dX2_readsTown_51 : decode cX2_readsTown 51 = .ok (.ifCond .eq 7, 3) := by decide +kernel
theorem dX2_readsTown_54 : decode cX2_readsTown 54 = .ok (.iconst 1, 1) := by decide +kernel
theorem dX2_readsTown_55 : decode cX2_readsTown 55 = .ok (.goto 4, 3) := by decide +kernel
theorem dX2_readsTown_58 : decode cX2_readsTown 58 = .ok (.iconst 0, 1) := by decide +kernel
theorem dX2_readsTown_59 : decode cX2_readsTown 59 = .ok (.ireturn, 1) := by decide +kernel
theorem dX5_town_0 : decode cX5_town 0 = .ok (.aload_n 0, 1) := by decide +kernel
theorem dX5_town_1 : decode cX5_town 1 = .ok (.getfield 19, 3) := by decide +kernel
theorem dX5_town_4 : decode cX5_town 4 = .ok (.invokevirtual 108, 3) := by decide +kernel
theorem dX5_town_7 : decode cX5_town 7 = .ok (.istore_n 1, 1) := by decide +kernel
theorem dX5_town_8 : decode cX5_town 8 = .ok (.aload_n 0, 1) := by decide +kernel
theorem dX5_town_9 : decode cX5_town 9 = .ok (.getfield 19, 3) := by decide +kernel
theorem dX5_town_12 : decode cX5_town 12 = .ok (.iconst 0, 1) := by decide +kernel
theorem dX5_town_13 : decode cX5_town 13 = .ok (.putfield 102, 3) := by decide +kernel
theorem dX5_town_16 : decode cX5_town 16 = .ok (.iload_n 1, 1) := by decide +kernel
theorem dX5_town_17 : decode cX5_town 17 = .ok (.ifCond .ne 25, 3) := by decide +kernel
theorem dX5_town_20 : decode cX5_town 20 = .ok (.aload_n 0, 1) := by decide +kernel
theorem dX5_town_21 : decode cX5_town 21 = .ok (.aload_n 0, 1) := by decide +kernel
theorem dX5_town_22 : decode cX5_town 22 = .ok (.getfield 19, 3) := by decide +kernel
theorem dX5_town_25 : decode cX5_town 25 = .ok (.getfield 111, 3) := by decide +kernel
theorem dX5_town_28 : decode cX5_town 28 = .ok (.putfield 114, 3) := by decide +kernel
theorem dX5_town_31 : decode cX5_town 31 = .ok (.ldc 117, 2) := by decide +kernel
theorem dX5_town_33 : decode cX5_town 33 = .ok (.aload_n 0, 1) := by decide +kernel
theorem dX5_town_34 : decode cX5_town 34 = .ok (.getfield 19, 3) := by decide +kernel
theorem dX5_town_37 : decode cX5_town 37 = .ok (.getfield 118, 3) := by decide +kernel
theorem dX5_town_40 : decode cX5_town 40 = .ok (.isub, 1) := by decide +kernel
theorem dX5_town_41 : decode cX5_town 41 = .ok (.ireturn, 1) := by decide +kernel
theorem dX5_town_42 : decode cX5_town 42 = .ok (.aload_n 0, 1) := by decide +kernel
theorem dX5_town_43 : decode cX5_town 43 = .ok (.getfield 26, 3) := by decide +kernel
theorem dX5_town_46 : decode cX5_town 46 = .ok (.aload_n 0, 1) := by decide +kernel
theorem dX5_town_47 : decode cX5_town 47 = .ok (.getfield 19, 3) := by decide +kernel
theorem dX5_town_50 : decode cX5_town 50 = .ok (.getfield 121, 3) := by decide +kernel
theorem dX5_town_53 : decode cX5_town 53 = .ok (.invokevirtual 124, 3) := by decide +kernel
theorem dX5_town_56 : decode cX5_town 56 = .ok (.aload_n 0, 1) := by decide +kernel
theorem dX5_town_57 : decode cX5_town 57 = .ok (.getfield 36, 3) := by decide +kernel
theorem dX5_town_60 : decode cX5_town 60 = .ok (.invokevirtual 128, 3) := by decide +kernel
theorem dX5_town_63 : decode cX5_town 63 = .ok (.aload_n 0, 1) := by decide +kernel
theorem dX5_town_64 : decode cX5_town 64 = .ok (.getfield 26, 3) := by decide +kernel
theorem dX5_town_67 : decode cX5_town 67 = .ok (.getfield 131, 3) := by decide +kernel
theorem dX5_town_70 : decode cX5_town 70 = .ok (.ireturn, 1) := by decide +kernel
section K4
variable {G : GG} {z : Nat} {σ : AH} {tp : Nat → Int32} {len : Nat} {r : RS} {s : TS}
theorem c_readsLaw (h19 : σ 19 = some (.inl (1, 400, tp))) (hr : rOK len r) (hs : sOK r) (hl : len ≤ 400) : Ct G yX2_readsLaw cX2_readsLaw 1 (some .boolean) 7 0 0 z (RHr σ len r s) [.ref 18] (some (.int (b2I (rLaw tp len r s).1))) z (RHr σ len (rLaw tp len r s).2.1 (rLaw tp len r s).2.2) := by
  refine Ct.ofJ RX2 rfl [some (.ref 18)] rfl (by decide) Nat.le.refl ?_
  refine j_aload_n dX2_readsLaw_0 rfl rfl ?_
  refine j_ldcS (i := 0) rfl (by decide) rfl dX2_readsLaw_1 ?_
  refine j_callV (c_takesWord h19 (by decide) hr hs hl) dX2_readsLaw_3 rfl mv_X2_51 (by first | exact ups_a | exact RH_tape h19 | exact RH_dr) rfl ⟨(Nat.le_of_ble_eq_true rfl), (Nat.le_of_ble_eq_true rfl)⟩ ⟨(Nat.le_of_ble_eq_true rfl), (Nat.le_of_ble_eq_true rfl)⟩ (Nat.le_of_ble_eq_true rfl) ?_
  refine j_if_eq 20 dX2_readsLaw_6 (by decide) (fun b6 => ?_) (fun b6 => ?_)
  · refine j_iconst (nI 0) dX2_readsLaw_20 rfl ?_
    exact j_zret .boolean rfl rfl dX2_readsLaw_21 (by unfold rLaw; first | (rw [if_pos hw, if_neg (b2I_n b17)]; rfl) | (rw [if_neg (b2I_n b6)]; rfl) | done) (by unfold rLaw; first | rw [if_pos hw, if_neg (b2I_n b17)] | rw [if_neg (b2I_n b6)] | done) (Nat.le_of_ble_eq_true rfl) (Nat.le_of_ble_eq_true rfl)
  · have hw := b2I_1 b6
    refine j_aload_n dX2_readsLaw_9 rfl rfl ?_
    refine j_iconst (nI 1) dX2_readsLaw_10 rfl ?_
    refine j_bipush (nI 20) dX2_readsLaw_11 rfl ?_
    refine j_iconst (-1) dX2_readsLaw_13 rfl ?_
    refine j_callV (c_takesNumber (nI 1) (nI 20) (-1) h19 (tWord_ok hr) (tWord_s hs) hl) dX2_readsLaw_14 rfl mv_X2_55 (by first | exact ups_a | exact RH_tape h19 | exact RH_dr) rfl ⟨(Nat.le_of_ble_eq_true rfl), (Nat.le_of_ble_eq_true rfl)⟩ ⟨(Nat.le_of_ble_eq_true rfl), (Nat.le_of_ble_eq_true rfl)⟩ (Nat.le_of_ble_eq_true rfl) ?_
    refine j_if_ne 22 dX2_readsLaw_17 (by decide) (fun b17 => ?_) (fun b17 => ?_)
    · have hv := tNum_v (b2I_1 b17)
      refine j_aload_n dX2_readsLaw_22 rfl rfl ?_
      refine j_getf dX2_readsLaw_23 2 1 rfl (Nat.le_of_ble_eq_true rfl) fl_X2_18 in_2 (by first | exact ups_a | exact RH_tape h19 | exact RH_dr) rfl ?_
      refine j_aload_n dX2_readsLaw_26 rfl rfl ?_
      refine j_getf dX2_readsLaw_27 2 7 rfl (Nat.le_of_ble_eq_true rfl) fl_X2_59 in_2 (by first | exact ups_a | exact RH_tape h19 | exact RH_dr) rfl ?_
      refine j_putf dX2_readsLaw_30 4 5 rfl (Nat.le_of_ble_eq_true rfl) fl_X2_62 in_4 tyX4 tyX4_ok nmX4 rfl rfl (by first | exact ups_a | exact RH_tape h19 | exact RH_dr) (Nat.le_of_ble_eq_true rfl) _ (by exact RH_obj (setU s (clp (tNum tp len (nI 1) (nI 20) (-1) (tWord tp len 0 r).2).2.2.2.2.2.1)) rfl rfl rfl rfl rfl (clp_nI (fun q => hv.1 (Int32.lt_trans q (by decide)))) rfl rfl rfl rfl) ?_
      refine j_aload_n dX2_readsLaw_33 rfl rfl ?_
      refine j_iconst (nI 0) dX2_readsLaw_34 rfl ?_
      refine j_bipush (nI 20) dX2_readsLaw_35 rfl ?_
      refine j_iconst (-1) dX2_readsLaw_37 rfl ?_
      refine j_callV (c_takesNumber (nI 0) (nI 20) (-1) h19 (tNum_ok (tWord_ok hr)) (tNum_s (tWord_s hs)) hl) dX2_readsLaw_38 rfl mv_X2_55 (by first | exact ups_a | exact RH_tape h19 | exact RH_dr) rfl ⟨(Nat.le_of_ble_eq_true rfl), (Nat.le_of_ble_eq_true rfl)⟩ ⟨(Nat.le_of_ble_eq_true rfl), (Nat.le_of_ble_eq_true rfl)⟩ (Nat.le_of_ble_eq_true rfl) ?_
      refine j_if_ne 46 dX2_readsLaw_41 (by decide) (fun b41 => ?_) (fun b41 => ?_)
      · have hv2 := tNum_v (b2I_1 b41)
        refine j_aload_n dX2_readsLaw_46 rfl rfl ?_
        refine j_getf dX2_readsLaw_47 2 1 rfl (Nat.le_of_ble_eq_true rfl) fl_X2_18 in_2 (by first | exact ups_a | exact RH_tape h19 | exact RH_dr) rfl ?_
        refine j_aload_n dX2_readsLaw_50 rfl rfl ?_
        refine j_getf dX2_readsLaw_51 2 7 rfl (Nat.le_of_ble_eq_true rfl) fl_X2_59 in_2 (by first | exact ups_a | exact RH_tape h19 | exact RH_dr) rfl ?_
        refine j_putf dX2_readsLaw_54 4 6 rfl (Nat.le_of_ble_eq_true rfl) fl_X2_65 in_4 tyX4 tyX4_ok nmX4 rfl rfl (by first | exact ups_a | exact RH_tape h19 | exact RH_dr) (Nat.le_of_ble_eq_true rfl) _ (by exact RH_obj (setR (setU s (clp (tNum tp len (nI 1) (nI 20) (-1) (tWord tp len 0 r).2).2.2.2.2.2.1)) (clp (tNum tp len (nI 0) (nI 20) (-1) (tNum tp len (nI 1) (nI 20) (-1) (tWord tp len 0 r).2).2).2.2.2.2.2.1)) rfl rfl rfl rfl rfl rfl (clp_nI hv2.1) rfl rfl rfl) ?_
        refine j_aload_n dX2_readsLaw_57 rfl rfl ?_
        refine j_callV (c_takesSign h19 (tNum_ok (tNum_ok (tWord_ok hr))) (tNum_s (tNum_s (tWord_s hs))) hl) dX2_readsLaw_58 rfl mv_X2_68 (by first | exact ups_a | exact RH_tape h19 | exact RH_dr) rfl ⟨(Nat.le_of_ble_eq_true rfl), (Nat.le_of_ble_eq_true rfl)⟩ ⟨(Nat.le_of_ble_eq_true rfl), (Nat.le_of_ble_eq_true rfl)⟩ (Nat.le_of_ble_eq_true rfl) ?_
        exact j_zret .boolean rfl (by cases (tSign tp len (tNum tp len (nI 0) (nI 20) (-1) (tNum tp len (nI 1) (nI 20) (-1) (tWord tp len 0 r).2).2).2).1 <;> rfl) dX2_readsLaw_61 (by unfold rLaw; rw [if_pos (b2I_1 b6), if_pos (b2I_1 b17), if_pos (b2I_1 b41)]) (by unfold rLaw; rw [if_pos (b2I_1 b6), if_pos (b2I_1 b17), if_pos (b2I_1 b41)]) (Nat.le_of_ble_eq_true rfl) (Nat.le_of_ble_eq_true rfl)
        done
      · refine j_iconst (nI 0) dX2_readsLaw_44 rfl ?_
        exact j_zret .boolean rfl rfl dX2_readsLaw_45 (by unfold rLaw; rw [if_pos (b2I_1 b6), if_pos (b2I_1 b17), if_neg (b2I_n b41)]; rfl) (by unfold rLaw; rw [if_pos (b2I_1 b6), if_pos (b2I_1 b17), if_neg (b2I_n b41)]) (Nat.le_of_ble_eq_true rfl) (Nat.le_of_ble_eq_true rfl)
    · refine j_iconst (nI 0) dX2_readsLaw_20 rfl ?_
      exact j_zret .boolean rfl rfl dX2_readsLaw_21 (by unfold rLaw; first | (rw [if_pos hw, if_neg (b2I_n b17)]; rfl) | (rw [if_neg (b2I_n b6)]; rfl) | done) (by unfold rLaw; first | rw [if_pos hw, if_neg (b2I_n b17)] | rw [if_neg (b2I_n b6)] | done) (Nat.le_of_ble_eq_true rfl) (Nat.le_of_ble_eq_true rfl)
end K4

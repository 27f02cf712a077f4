/-! THE READER: tokens -/
def isBl (c : Int32) : Bool := decide (c = nI 32 ∨ c = nI 10)
def isLt (c : Int32) : Bool := decide (nI 97 ≤ c ∧ c ≤ nI 122)
def isFg (c : Int32) : Bool := decide (nI 48 ≤ c ∧ c ≤ nI 57)
def b2I (b : Bool) : Int32 := if b = true then nI 1 else nI 0
abbrev xRd (len srt sta en : Nat) (va ta fa : Int32) : AE := .inr (.inr (2, [.ref 19, .ref 20, .int (nI len), .int (nI srt), .int (nI sta), .int (nI en), .int va, .int ta, .int fa]))
abbrev RH (σ : AH) (len srt sta en : Nat) (va ta fa : Int32) (s : TS) : AH := ups (twS σ 20 s) 18 (xRd len srt sta en va ta fa)
theorem RH_tape {σ : AH} {tp : Nat → Int32} {s : TS} (h : σ 19 = some (.inl (1, 400, tp))) {e : AE} : ups (twS σ 20 s) 18 e 19 = some (.inl (1, 400, tp)) := (ups_x (by decide)).trans ((twS_x (by decide)).trans h)
theorem RH_dr {σ : AH} {s : TS} {e : AE} : ups (twS σ 20 s) 18 e 20 = some (.inr (.inr (4, [.ref (20 + 1), .ref (20 + 2), .ref (20 + 3), .ref (20 + 4), .int (nI (sN s)), .int (nI (sU s)), .int (nI (sR s)), .int (nI (sQ s)), .int (sH s), .int (sF s)]))) := (ups_x (by decide)).trans tw_o
theorem fstN_ge (P : Nat → Bool) : ∀ n k, k ≤ fstN P n k
  | 0, k => Nat.le_refl k
  | n + 1, k => by
    unfold fstN
    split
    · exact Nat.le_refl k
    · exact Nat.le_trans (Nat.le_succ k) (fstN_ge P n (k + 1))
theorem fstN_le (P : Nat → Bool) : ∀ n k, fstN P n k ≤ k + n
  | 0, k => Nat.le_refl k
  | n + 1, k => by
    unfold fstN
    split
    · omega
    · have := fstN_le P n (k + 1); omega
/-- where the next token begins -/
def tkS (tp : Nat → Int32) (len e : Nat) : Nat := fstN (fun j => !isBl (tp j)) (len - e) e
def enL (tp : Nat → Int32) (len s : Nat) : Nat := fstN (fun j => !isLt (tp j)) (len - s) s
def enF (tp : Nat → Int32) (len s : Nat) : Nat := fstN (fun j => !isFg (tp j)) (len - s) s
def vlF (tp : Nat → Int32) (s : Nat) : Nat → Int32
  | 0 => nI 0
  | k + 1 => if k < 3 then nI 10 * vlF tp s k + tp (s + k) - nI 48 else vlF tp s k
/-- the next token: sort, start, end, value -/
def tk (tp : Nat → Int32) (len e : Nat) (va : Int32) : Nat × Nat × Nat × Int32 :=
  if len ≤ tkS tp len e then (0, tkS tp len e, tkS tp len e, va)
  else if isLt (tp (tkS tp len e)) = true then (1, tkS tp len e, enL tp len (tkS tp len e), va)
  else if isFg (tp (tkS tp len e)) = true then ((if enF tp len (tkS tp len e) - tkS tp len e ≤ 3 then 2 else 4), tkS tp len e, enF tp len (tkS tp len e), vlF tp (tkS tp len e) (enF tp len (tkS tp len e) - tkS tp len e))
  else ((if tp (tkS tp len e) = nI 59 then 3 else 4), tkS tp len e, tkS tp len e + 1, va)
theorem dX2_isBlank_0 : decode cX2_isBlank 0 = .ok (.iload_n 0, 1) := by decide +kernel
theorem dX2_isBlank_1 : decode cX2_isBlank 1 = .ok (.bipush 32, 2) := by decide +kernel
theorem dX2_isBlank_3 : decode cX2_isBlank 3 = .ok (.if_icmp .eq 9, 3) := by decide +kernel
theorem dX2_isBlank_6 : decode cX2_isBlank 6 = .ok (.iload_n 0, 1) := by decide +kernel
theorem dX2_isBlank_7 : decode cX2_isBlank 7 = .ok (.bipush 10, 2) := by decide +kernel
theorem dX2_isBlank_9 : decode cX2_isBlank 9 = .ok (.if_icmp .ne 7, 3) := by decide +kernel
theorem dX2_isBlank_12 : decode cX2_isBlank 12 = .ok (.iconst 1, 1) := by decide +kernel
theorem dX2_isBlank_13 : decode cX2_isBlank 13 = .ok (.goto 4, 3) := by decide +kernel
theorem dX2_isBlank_16 : decode cX2_isBlank 16 = .ok (.iconst 0, 1) := by decide +kernel
theorem dX2_isBlank_17 : decode cX2_isBlank 17 = .ok (.ireturn, 1) := by decide +kernel
theorem dX2_isLetter_0 : decode cX2_isLetter 0 = .ok (.iload_n 0, 1) := by decide +kernel
theorem dX2_isLetter_1 : decode cX2_isLetter 1 = .ok (.bipush 97, 2) := by decide +kernel
theorem dX2_isLetter_3 : decode cX2_isLetter 3 = .ok (.if_icmp .lt 13, 3) := by decide +kernel
theorem dX2_isLetter_6 : decode cX2_isLetter 6 = .ok (.iload_n 0, 1) := by decide +kernel
theorem dX2_isLetter_7 : decode cX2_isLetter 7 = .ok (.bipush 122, 2) := by decide +kernel
theorem dX2_isLetter_9 : decode cX2_isLetter 9 = .ok (.if_icmp .gt 7, 3) := by decide +kernel
theorem dX2_isLetter_12 : decode cX2_isLetter 12 = .ok (.iconst 1, 1) := by decide +kernel
theorem dX2_isLetter_13 : decode cX2_isLetter 13 = .ok (.goto 4, 3) := by decide +kernel
theorem dX2_isLetter_16 : decode cX2_isLetter 16 = .ok (.iconst 0, 1) := by decide +kernel
theorem dX2_isLetter_17 : decode cX2_isLetter 17 = .ok (.ireturn, 1) := by decide +kernel
theorem dX2_isFigure_0 : decode cX2_isFigure 0 = .ok (.iload_n 0, 1) := by decide +kernel
theorem dX2_isFigure_1 : decode cX2_isFigure 1 = .ok (.bipush 48, 2) := by decide +kernel
theorem dX2_isFigure_3 : decode cX2_isFigure 3 = .ok (.if_icmp .lt 13, 3) := by decide +kernel
theorem dX2_isFigure_6 : decode cX2_isFigure 6 = .ok (.iload_n 0, 1) := by decide +kernel
theorem dX2_isFigure_7 : decode cX2_isFigure 7 = .ok (.bipush 57, 2) := by decide +kernel
theorem dX2_isFigure_9 : decode cX2_isFigure 9 = .ok (.if_icmp .gt 7, 3) := by decide +kernel
theorem dX2_isFigure_12 : decode cX2_isFigure 12 = .ok (.iconst 1, 1) := by decide +kernel
theorem dX2_isFigure_13 : decode cX2_isFigure 13 = .ok (.goto 4, 3) := by decide +kernel
theorem dX2_isFigure_16 : decode cX2_isFigure 16 = .ok (.iconst 0, 1) := by decide +kernel
theorem dX2_isFigure_17 : decode cX2_isFigure 17 = .ok (.ireturn, 1) := by decide +kernel
theorem dX2_endName_0 : decode cX2_endName 0 = .ok (.aload_n 0, 1) := by decide +kernel
theorem dX2_endName_1 : decode cX2_endName 1 = .ok (.getfield 22, 3) := by decide +kernel
theorem dX2_endName_4 : decode cX2_endName 4 = .ok (.aload_n 0, 1) := by decide +kernel
theorem dX2_endName_5 : decode cX2_endName 5 = .ok (.getfield 118, 3) := by decide +kernel
theorem dX2_endName_8 : decode cX2_endName 8 = .ok (.if_icmp .ge 31, 3) := by decide +kernel
theorem dX2_endName_11 : decode cX2_endName 11 = .ok (.aload_n 0, 1) := by decide +kernel
theorem dX2_endName_12 : decode cX2_endName 12 = .ok (.getfield 9, 3) := by decide +kernel
theorem dX2_endName_15 : decode cX2_endName 15 = .ok (.aload_n 0, 1) := by decide +kernel
theorem dX2_endName_16 : decode cX2_endName 16 = .ok (.getfield 22, 3) := by decide +kernel
theorem dX2_endName_19 : decode cX2_endName 19 = .ok (.baload, 1) := by decide +kernel
theorem dX2_endName_20 : decode cX2_endName 20 = .ok (.invokestatic 123, 3) := by decide +kernel
theorem dX2_endName_23 : decode cX2_endName 23 = .ok (.ifCond .eq 16, 3) := by decide +kernel
theorem dX2_endName_26 : decode cX2_endName 26 = .ok (.aload_n 0, 1) := by decide +kernel
theorem dX2_endName_27 : decode cX2_endName 27 = .ok (.dup, 1) := by decide +kernel
theorem dX2_endName_28 : decode cX2_endName 28 = .ok (.getfield 22, 3) := by decide +kernel
theorem dX2_endName_31 : decode cX2_endName 31 = .ok (.iconst 1, 1) := by decide +kernel
theorem dX2_endName_32 : decode cX2_endName 32 = .ok (.iadd, 1) := by decide +kernel
theorem dX2_endName_33 : decode cX2_endName 33 = .ok (.putfield 22, 3) := by decide +kernel
theorem dX2_endName_36 : decode cX2_endName 36 = .ok (.goto (-36), 3) := by decide +kernel
theorem dX2_endName_39 : decode cX2_endName 39 = .ok (.aload_n 0, 1) := by decide +kernel
theorem dX2_endName_40 : decode cX2_endName 40 = .ok (.iconst 1, 1) := by decide +kernel
theorem dX2_endName_41 : decode cX2_endName 41 = .ok (.putfield 42, 3) := by decide +kernel
theorem dX2_endName_44 : decode cX2_endName 44 = .ok (.return_, 1) := by decide +kernel
theorem dX2_endNumber_0 : decode cX2_endNumber 0 = .ok (.aload_n 0, 1) := by decide +kernel
theorem dX2_endNumber_1 : decode cX2_endNumber 1 = .ok (.iconst 0, 1) := by decide +kernel
theorem dX2_endNumber_2 : decode cX2_endNumber 2 = .ok (.putfield 115, 3) := by decide +kernel
theorem dX2_endNumber_5 : decode cX2_endNumber 5 = .ok (.aload_n 0, 1) := by decide +kernel
theorem dX2_endNumber_6 : decode cX2_endNumber 6 = .ok (.getfield 22, 3) := by decide +kernel
theorem dX2_endNumber_9 : decode cX2_endNumber 9 = .ok (.aload_n 0, 1) := by decide +kernel
theorem dX2_endNumber_10 : decode cX2_endNumber 10 = .ok (.getfield 118, 3) := by decide +kernel
theorem dX2_endNumber_13 : decode cX2_endNumber 13 = .ok (.if_icmp .ge 68, 3) := by decide +kernel
theorem dX2_endNumber_16 : decode cX2_endNumber 16 = .ok (.aload_n 0, 1) := by decide +kernel
theorem dX2_endNumber_17 : decode cX2_endNumber 17 = .ok (.getfield 9, 3) := by decide +kernel
theorem dX2_endNumber_20 : decode cX2_endNumber 20 = .ok (.aload_n 0, 1) := by decide +kernel
theorem dX2_endNumber_21 : decode cX2_endNumber 21 = .ok (.getfield 22, 3) := by decide +kernel
theorem dX2_endNumber_24 : decode cX2_endNumber 24 = .ok (.baload, 1) := by decide +kernel
theorem dX2_endNumber_25 : decode cX2_endNumber 25 = .ok (.invokestatic 129, 3) := by decide +kernel
theorem dX2_endNumber_28 : decode cX2_endNumber 28 = .ok (.ifCond .eq 53, 3) := by decide +kernel
theorem dX2_endNumber_31 : decode cX2_endNumber 31 = .ok (.aload_n 0, 1) := by decide +kernel
theorem dX2_endNumber_32 : decode cX2_endNumber 32 = .ok (.getfield 22, 3) := by decide +kernel
theorem dX2_endNumber_35 : decode cX2_endNumber 35 = .ok (.aload_n 0, 1) := by decide +kernel
theorem dX2_endNumber_36 : decode cX2_endNumber 36 = .ok (.getfield 102, 3) := by decide +kernel
theorem dX2_endNumber_39 : decode cX2_endNumber 39 = .ok (.isub, 1) := by decide +kernel
theorem dX2_endNumber_40 : decode cX2_endNumber 40 = .ok (.iconst 3, 1) := by decide +kernel
theorem dX2_endNumber_41 : decode cX2_endNumber 41 = .ok (.if_icmp .ge 27, 3) := by decide +kernel
theorem dX2_endNumber_44 : decode cX2_endNumber 44 = .ok (.aload_n 0, 1) := by decide +kernel
theorem dX2_endNumber_45 : decode cX2_endNumber 45 = .ok (.bipush 10, 2) := by decide +kernel
theorem dX2_endNumber_47 : decode cX2_endNumber 47 = .ok (.aload_n 0, 1) := by decide +kernel
theorem dX2_endNumber_48 : decode cX2_endNumber 48 = .ok (.getfield 115, 3) := by decide +kernel
theorem dX2_endNumber_51 : decode cX2_endNumber 51 = .ok (.imul, 1) := by decide +kernel
theorem dX2_endNumber_52 : decode cX2_endNumber 52 = .ok (.aload_n 0, 1) := by decide +kernel
theorem dX2_endNumber_53 : decode cX2_endNumber 53 = .ok (.getfield 9, 3) := by decide +kernel
theorem dX2_endNumber_56 : decode cX2_endNumber 56 = .ok (.aload_n 0, 1) := by decide +kernel
theorem dX2_endNumber_57 : decode cX2_endNumber 57 = .ok (.getfield 22, 3) := by decide +kernel
theorem dX2_endNumber_60 : decode cX2_endNumber 60 = .ok (.baload, 1) := by decide +kernel
theorem dX2_endNumber_61 : decode cX2_endNumber 61 = .ok (.iadd, 1) := by decide +kernel
theorem dX2_endNumber_62 : decode cX2_endNumber 62 = .ok (.bipush 48, 2) := by decide +kernel
theorem dX2_endNumber_64 : decode cX2_endNumber 64 = .ok (.isub, 1) := by decide +kernel
theorem dX2_endNumber_65 : decode cX2_endNumber 65 = .ok (.putfield 115, 3) := by decide +kernel
theorem dX2_endNumber_68 : decode cX2_endNumber 68 = .ok (.aload_n 0, 1) := by decide +kernel
theorem dX2_endNumber_69 : decode cX2_endNumber 69 = .ok (.dup, 1) := by decide +kernel
theorem dX2_endNumber_70 : decode cX2_endNumber 70 = .ok (.getfield 22, 3) := by decide +kernel
theorem dX2_endNumber_73 : decode cX2_endNumber 73 = .ok (.iconst 1, 1) := by decide +kernel
theorem dX2_endNumber_74 : decode cX2_endNumber 74 = .ok (.iadd, 1) := by decide +kernel
theorem dX2_endNumber_75 : decode cX2_endNumber 75 = .ok (.putfield 22, 3) := by decide +kernel
theorem dX2_endNumber_78 : decode cX2_endNumber 78 = .ok (.goto (-73), 3) := by decide +kernel
theorem dX2_endNumber_81 : decode cX2_endNumber 81 = .ok (.aload_n 0, 1) := by decide +kernel
theorem dX2_endNumber_82 : decode cX2_endNumber 82 = .ok (.aload_n 0, 1) := by decide +kernel
theorem dX2_endNumber_83 : decode cX2_endNumber 83 = .ok (.getfield 22, 3) := by decide +kernel
theorem dX2_endNumber_86 : decode cX2_endNumber 86 = .ok (.aload_n 0, 1) := by decide +kernel
theorem dX2_endNumber_87 : decode cX2_endNumber 87 = .ok (.getfield 102, 3) := by decide +kernel
theorem dX2_endNumber_90 : decode cX2_endNumber 90 = .ok (.isub, 1) := by decide +kernel
theorem dX2_endNumber_91 : decode cX2_endNumber 91 = .ok (.iconst 3, 1) := by decide +kernel
theorem dX2_endNumber_92 : decode cX2_endNumber 92 = .ok (.if_icmp .gt 7, 3) := by decide +kernel
theorem dX2_endNumber_95 : decode cX2_endNumber 95 = .ok (.iconst 2, 1) := by decide +kernel
theorem dX2_endNumber_96 : decode cX2_endNumber 96 = .ok (.goto 4, 3) := by decide +kernel
theorem dX2_endNumber_99 : decode cX2_endNumber 99 = .ok (.iconst 4, 1) := by decide +kernel
theorem dX2_endNumber_100 : decode cX2_endNumber 100 = .ok (.putfield 42, 3) := by decide +kernel
theorem dX2_endNumber_103 : decode cX2_endNumber 103 = .ok (.return_, 1) := by decide +kernel
theorem dX2_toNextToken_0 : decode cX2_toNextToken 0 = .ok (.aload_n 0, 1) := by decide +kernel
theorem dX2_toNextToken_1 : decode cX2_toNextToken 1 = .ok (.aload_n 0, 1) := by decide +kernel
theorem dX2_toNextToken_2 : decode cX2_toNextToken 2 = .ok (.getfield 22, 3) := by decide +kernel
theorem dX2_toNextToken_5 : decode cX2_toNextToken 5 = .ok (.putfield 102, 3) := by decide +kernel
theorem dX2_toNextToken_8 : decode cX2_toNextToken 8 = .ok (.aload_n 0, 1) := by decide +kernel
theorem dX2_toNextToken_9 : decode cX2_toNextToken 9 = .ok (.getfield 102, 3) := by decide +kernel
theorem dX2_toNextToken_12 : decode cX2_toNextToken 12 = .ok (.aload_n 0, 1) := by decide +kernel
theorem dX2_toNextToken_13 : decode cX2_toNextToken 13 = .ok (.getfield 118, 3) := by decide +kernel
theorem dX2_toNextToken_16 : decode cX2_toNextToken 16 = .ok (.if_icmp .ge 31, 3) := by decide +kernel
theorem dX2_toNextToken_19 : decode cX2_toNextToken 19 = .ok (.aload_n 0, 1) := by decide +kernel
theorem dX2_toNextToken_20 : decode cX2_toNextToken 20 = .ok (.getfield 9, 3) := by decide +kernel
theorem dX2_toNextToken_23 : decode cX2_toNextToken 23 = .ok (.aload_n 0, 1) := by decide +kernel
theorem dX2_toNextToken_24 : decode cX2_toNextToken 24 = .ok (.getfield 102, 3) := by decide +kernel
theorem dX2_toNextToken_27 : decode cX2_toNextToken 27 = .ok (.baload, 1) := by decide +kernel
theorem dX2_toNextToken_28 : decode cX2_toNextToken 28 = .ok (.invokestatic 120, 3) := by decide +kernel
theorem dX2_toNextToken_31 : decode cX2_toNextToken 31 = .ok (.ifCond .eq 16, 3) := by decide +kernel
theorem dX2_toNextToken_34 : decode cX2_toNextToken 34 = .ok (.aload_n 0, 1) := by decide +kernel
theorem dX2_toNextToken_35 : decode cX2_toNextToken 35 = .ok (.dup, 1) := by decide +kernel
theorem dX2_toNextToken_36 : decode cX2_toNextToken 36 = .ok (.getfield 102, 3) := by decide +kernel
theorem dX2_toNextToken_39 : decode cX2_toNextToken 39 = .ok (.iconst 1, 1) := by decide +kernel
theorem dX2_toNextToken_40 : decode cX2_toNextToken 40 = .ok (.iadd, 1) := by decide +kernel
theorem dX2_toNextToken_41 : decode cX2_toNextToken 41 = .ok (.putfield 102, 3) := by decide +kernel
theorem dX2_toNextToken_44 : decode cX2_toNextToken 44 = .ok (.goto (-36), 3) := by decide +kernel
theorem dX2_toNextToken_47 : decode cX2_toNextToken 47 = .ok (.aload_n 0, 1) := by decide +kernel
theorem dX2_toNextToken_48 : decode cX2_toNextToken 48 = .ok (.aload_n 0, 1) := by decide +kernel
theorem dX2_toNextToken_49 : decode cX2_toNextToken 49 = .ok (.getfield 102, 3) := by decide +kernel
theorem dX2_toNextToken_52 : decode cX2_toNextToken 52 = .ok (.putfield 22, 3) := by decide +kernel
theorem dX2_toNextToken_55 : decode cX2_toNextToken 55 = .ok (.aload_n 0, 1) := by decide +kernel
theorem dX2_toNextToken_56 : decode cX2_toNextToken 56 = .ok (.getfield 102, 3) := by decide +kernel
theorem dX2_toNextToken_59 : decode cX2_toNextToken 59 = .ok (.aload_n 0, 1) := by decide +kernel
theorem dX2_toNextToken_60 : decode cX2_toNextToken 60 = .ok (.getfield 118, 3) := by decide +kernel
theorem dX2_toNextToken_63 : decode cX2_toNextToken 63 = .ok (.if_icmp .lt 11, 3) := by decide +kernel
theorem dX2_toNextToken_66 : decode cX2_toNextToken 66 = .ok (.aload_n 0, 1) := by decide +kernel
theorem dX2_toNextToken_67 : decode cX2_toNextToken 67 = .ok (.iconst 0, 1) := by decide +kernel
theorem dX2_toNextToken_68 : decode cX2_toNextToken 68 = .ok (.putfield 42, 3) := by decide +kernel
theorem dX2_toNextToken_71 : decode cX2_toNextToken 71 = .ok (.goto 80, 3) := by decide +kernel
theorem dX2_toNextToken_74 : decode cX2_toNextToken 74 = .ok (.aload_n 0, 1) := by decide +kernel
theorem dX2_toNextToken_75 : decode cX2_toNextToken 75 = .ok (.getfield 9, 3) := by decide +kernel
theorem dX2_toNextToken_78 : decode cX2_toNextToken 78 = .ok (.aload_n 0, 1) := by decide +kernel
theorem dX2_toNextToken_79 : decode cX2_toNextToken 79 = .ok (.getfield 102, 3) := by decide +kernel
theorem dX2_toNextToken_82 : decode cX2_toNextToken 82 = .ok (.baload, 1) := by decide +kernel
theorem dX2_toNextToken_83 : decode cX2_toNextToken 83 = .ok (.invokestatic 123, 3) := by decide +kernel
theorem dX2_toNextToken_86 : decode cX2_toNextToken 86 = .ok (.ifCond .eq 10, 3) := by decide +kernel
theorem dX2_toNextToken_89 : decode cX2_toNextToken 89 = .ok (.aload_n 0, 1) := by decide +kernel
theorem dX2_toNextToken_90 : decode cX2_toNextToken 90 = .ok (.invokevirtual 126, 3) := by decide +kernel
theorem dX2_toNextToken_93 : decode cX2_toNextToken 93 = .ok (.goto 58, 3) := by decide +kernel
theorem dX2_toNextToken_96 : decode cX2_toNextToken 96 = .ok (.aload_n 0, 1) := by decide +kernel
theorem dX2_toNextToken_97 : decode cX2_toNextToken 97 = .ok (.getfield 9, 3) := by decide +kernel
theorem dX2_toNextToken_100 : decode cX2_toNextToken 100 = .ok (.aload_n 0, 1) := by decide +kernel
theorem dX2_toNextToken_101 : decode cX2_toNextToken 101 = .ok (.getfield 102, 3) := by decide +kernel
theorem dX2_toNextToken_104 : decode cX2_toNextToken 104 = .ok (.baload, 1) := by decide +kernel
theorem dX2_toNextToken_105 : decode cX2_toNextToken 105 = .ok (.invokestatic 129, 3) := by decide +kernel
theorem dX2_toNextToken_108 : decode cX2_toNextToken 108 = .ok (.ifCond .eq 10, 3) := by decide +kernel
theorem dX2_toNextToken_111 : decode cX2_toNextToken 111 = .ok (.aload_n 0, 1) := by decide +kernel
theorem dX2_toNextToken_112 : decode cX2_toNextToken 112 = .ok (.invokevirtual 132, 3) := by decide +kernel
theorem dX2_toNextToken_115 : decode cX2_toNextToken 115 = .ok (.goto 36, 3) := by decide +kernel
theorem dX2_toNextToken_118 : decode cX2_toNextToken 118 = .ok (.aload_n 0, 1) := by decide +kernel
theorem dX2_toNextToken_119 : decode cX2_toNextToken 119 = .ok (.aload_n 0, 1) := by decide +kernel
theorem dX2_toNextToken_120 : decode cX2_toNextToken 120 = .ok (.getfield 9, 3) := by decide +kernel
theorem dX2_toNextToken_123 : decode cX2_toNextToken 123 = .ok (.aload_n 0, 1) := by decide +kernel
theorem dX2_toNextToken_124 : decode cX2_toNextToken 124 = .ok (.getfield 102, 3) := by decide +kernel
theorem dX2_toNextToken_127 : decode cX2_toNextToken 127 = .ok (.baload, 1) := by decide +kernel
theorem dX2_toNextToken_128 : decode cX2_toNextToken 128 = .ok (.bipush 59, 2) := by decide +kernel
theorem dX2_toNextToken_130 : decode cX2_toNextToken 130 = .ok (.if_icmp .ne 7, 3) := by decide +kernel
theorem dX2_toNextToken_133 : decode cX2_toNextToken 133 = .ok (.iconst 3, 1) := by decide +kernel
theorem dX2_toNextToken_134 : decode cX2_toNextToken 134 = .ok (.goto 4, 3) := by decide +kernel
theorem dX2_toNextToken_137 : decode cX2_toNextToken 137 = .ok (.iconst 4, 1) := by decide +kernel
theorem dX2_toNextToken_138 : decode cX2_toNextToken 138 = .ok (.putfield 42, 3) := by decide +kernel
theorem dX2_toNextToken_141 : decode cX2_toNextToken 141 = .ok (.aload_n 0, 1) := by decide +kernel
theorem dX2_toNextToken_142 : decode cX2_toNextToken 142 = .ok (.aload_n 0, 1) := by decide +kernel
theorem dX2_toNextToken_143 : decode cX2_toNextToken 143 = .ok (.getfield 102, 3) := by decide +kernel
theorem dX2_toNextToken_146 : decode cX2_toNextToken 146 = .ok (.iconst 1, 1) := by decide +kernel
theorem dX2_toNextToken_147 : decode cX2_toNextToken 147 = .ok (.iadd, 1) := by decide +kernel
theorem dX2_toNextToken_148 : decode cX2_toNextToken 148 = .ok (.putfield 22, 3) := by decide +kernel
theorem dX2_toNextToken_151 : decode cX2_toNextToken 151 = .ok (.return_, 1) := by decide +kernel
section K2
variable {G : GG} {z : Nat} {σ : AH} {tp : Nat → Int32} {len srt sta en : Nat} {va ta fa : Int32} {s : TS}
theorem c_isBlank (c : Int32) : Ct G yX2_isBlank cX2_isBlank 1 (some .boolean) 1 0 0 z σ [.int c] (some (.int (b2I (isBl c)))) z σ := by
  refine Ct.ofJ RX2 rfl [some (.int c)] rfl (by decide) Nat.le.refl ?_
  refine j_iload_n dX2_isBlank_0 rfl rfl ?_
  refine j_bipush (nI 32) dX2_isBlank_1 rfl ?_
  refine j_icmp_eq 12 dX2_isBlank_3 (by decide) (fun b3 => ?_) (fun b3 => ?_)
  · refine j_iconst (nI 1) dX2_isBlank_12 rfl ?_
    refine j_goto 17 dX2_isBlank_13 (by decide) ?_
    exact j_zret .boolean rfl rfl dX2_isBlank_17 (by unfold b2I isBl; first | rw [if_pos (decide_eq_true (Or.inl b3))] | rw [if_neg (by simp only [decide_eq_true_eq]; exact fun q => q.elim b3 b9)] | rw [if_pos (decide_eq_true (Or.inr b9))]) rfl (Nat.le_of_ble_eq_true rfl) (Nat.le_of_ble_eq_true rfl)
  · refine j_iload_n dX2_isBlank_6 rfl rfl ?_
    refine j_bipush (nI 10) dX2_isBlank_7 rfl ?_
    refine j_icmp_ne 16 dX2_isBlank_9 (by decide) (fun b9 => ?_) (fun b9 => ?_)
    · refine j_iconst (nI 0) dX2_isBlank_16 rfl ?_
      exact j_zret .boolean rfl rfl dX2_isBlank_17 (by unfold b2I isBl; first | rw [if_pos (decide_eq_true (Or.inl b3))] | rw [if_neg (by simp only [decide_eq_true_eq]; exact fun q => q.elim b3 b9)] | rw [if_pos (decide_eq_true (Or.inr b9))]) rfl (Nat.le_of_ble_eq_true rfl) (Nat.le_of_ble_eq_true rfl)
    · refine j_iconst (nI 1) dX2_isBlank_12 rfl ?_
      refine j_goto 17 dX2_isBlank_13 (by decide) ?_
      exact j_zret .boolean rfl rfl dX2_isBlank_17 (by unfold b2I isBl; first | rw [if_pos (decide_eq_true (Or.inl b3))] | rw [if_neg (by simp only [decide_eq_true_eq]; exact fun q => q.elim b3 b9)] | rw [if_pos (decide_eq_true (Or.inr b9))]) rfl (Nat.le_of_ble_eq_true rfl) (Nat.le_of_ble_eq_true rfl)
theorem c_isLetter (c : Int32) : Ct G yX2_isLetter cX2_isLetter 1 (some .boolean) 1 0 0 z σ [.int c] (some (.int (b2I (isLt c)))) z σ := by
  refine Ct.ofJ RX2 rfl [some (.int c)] rfl (by decide) Nat.le.refl ?_
  refine j_iload_n dX2_isLetter_0 rfl rfl ?_
  refine j_bipush (nI 97) dX2_isLetter_1 rfl ?_
  refine j_icmp_lt 16 dX2_isLetter_3 (by decide) (fun b3 => ?_) (fun b3 => ?_)
  · refine j_iconst (nI 0) dX2_isLetter_16 rfl ?_
    exact j_zret .boolean rfl rfl dX2_isLetter_17 (by unfold b2I isLt; first | rw [if_neg (by simp only [decide_eq_true_eq]; exact fun q => absurd q.1 (Int32.not_le.mpr b3))] | rw [if_neg (by simp only [decide_eq_true_eq]; exact fun q => absurd q.2 (Int32.not_le.mpr b9))] | rw [if_pos (decide_eq_true ⟨Int32.not_lt.mp b3, Int32.not_lt.mp b9⟩)]) rfl (Nat.le_of_ble_eq_true rfl) (Nat.le_of_ble_eq_true rfl)
  · refine j_iload_n dX2_isLetter_6 rfl rfl ?_
    refine j_bipush (nI 122) dX2_isLetter_7 rfl ?_
    refine j_icmp_gt 16 dX2_isLetter_9 (by decide) (fun b9 => ?_) (fun b9 => ?_)
    · refine j_iconst (nI 0) dX2_isLetter_16 rfl ?_
      exact j_zret .boolean rfl rfl dX2_isLetter_17 (by unfold b2I isLt; first | rw [if_neg (by simp only [decide_eq_true_eq]; exact fun q => absurd q.1 (Int32.not_le.mpr b3))] | rw [if_neg (by simp only [decide_eq_true_eq]; exact fun q => absurd q.2 (Int32.not_le.mpr b9))] | rw [if_pos (decide_eq_true ⟨Int32.not_lt.mp b3, Int32.not_lt.mp b9⟩)]) rfl (Nat.le_of_ble_eq_true rfl) (Nat.le_of_ble_eq_true rfl)
    · refine j_iconst (nI 1) dX2_isLetter_12 rfl ?_
      refine j_goto 17 dX2_isLetter_13 (by decide) ?_
      exact j_zret .boolean rfl rfl dX2_isLetter_17 (by unfold b2I isLt; first | rw [if_neg (by simp only [decide_eq_true_eq]; exact fun q => absurd q.1 (Int32.not_le.mpr b3))] | rw [if_neg (by simp only [decide_eq_true_eq]; exact fun q => absurd q.2 (Int32.not_le.mpr b9))] | rw [if_pos (decide_eq_true ⟨Int32.not_lt.mp b3, Int32.not_lt.mp b9⟩)]) rfl (Nat.le_of_ble_eq_true rfl) (Nat.le_of_ble_eq_true rfl)
theorem c_isFigure (c : Int32) : Ct G yX2_isFigure cX2_isFigure 1 (some .boolean) 1 0 0 z σ [.int c] (some (.int (b2I (isFg c)))) z σ := by
  refine Ct.ofJ RX2 rfl [some (.int c)] rfl (by decide) Nat.le.refl ?_
  refine j_iload_n dX2_isFigure_0 rfl rfl ?_
  refine j_bipush (nI 48) dX2_isFigure_1 rfl ?_
  refine j_icmp_lt 16 dX2_isFigure_3 (by decide) (fun b3 => ?_) (fun b3 => ?_)
  · refine j_iconst (nI 0) dX2_isFigure_16 rfl ?_
    exact j_zret .boolean rfl rfl dX2_isFigure_17 (by unfold b2I isFg; first | rw [if_neg (by simp only [decide_eq_true_eq]; exact fun q => absurd q.1 (Int32.not_le.mpr b3))] | rw [if_neg (by simp only [decide_eq_true_eq]; exact fun q => absurd q.2 (Int32.not_le.mpr b9))] | rw [if_pos (decide_eq_true ⟨Int32.not_lt.mp b3, Int32.not_lt.mp b9⟩)]) rfl (Nat.le_of_ble_eq_true rfl) (Nat.le_of_ble_eq_true rfl)
  · refine j_iload_n dX2_isFigure_6 rfl rfl ?_
    refine j_bipush (nI 57) dX2_isFigure_7 rfl ?_
    refine j_icmp_gt 16 dX2_isFigure_9 (by decide) (fun b9 => ?_) (fun b9 => ?_)
    · refine j_iconst (nI 0) dX2_isFigure_16 rfl ?_
      exact j_zret .boolean rfl rfl dX2_isFigure_17 (by unfold b2I isFg; first | rw [if_neg (by simp only [decide_eq_true_eq]; exact fun q => absurd q.1 (Int32.not_le.mpr b3))] | rw [if_neg (by simp only [decide_eq_true_eq]; exact fun q => absurd q.2 (Int32.not_le.mpr b9))] | rw [if_pos (decide_eq_true ⟨Int32.not_lt.mp b3, Int32.not_lt.mp b9⟩)]) rfl (Nat.le_of_ble_eq_true rfl) (Nat.le_of_ble_eq_true rfl)
    · refine j_iconst (nI 1) dX2_isFigure_12 rfl ?_
      refine j_goto 17 dX2_isFigure_13 (by decide) ?_
      exact j_zret .boolean rfl rfl dX2_isFigure_17 (by unfold b2I isFg; first | rw [if_neg (by simp only [decide_eq_true_eq]; exact fun q => absurd q.1 (Int32.not_le.mpr b3))] | rw [if_neg (by simp only [decide_eq_true_eq]; exact fun q => absurd q.2 (Int32.not_le.mpr b9))] | rw [if_pos (decide_eq_true ⟨Int32.not_lt.mp b3, Int32.not_lt.mp b9⟩)]) rfl (Nat.le_of_ble_eq_true rfl) (Nat.le_of_ble_eq_true rfl)
theorem b2I_0 {b : Bool} (h : b2I b = 0) : b = false := by
  cases b
  · rfl
  · exact absurd h (by decide)
theorem b2I_1 {b : Bool} (h : ¬ b2I b = 0) : b = true := by
  cases b
  · exact absurd rfl h
  · rfl
theorem c_endName (h19 : σ 19 = some (.inl (1, 400, tp))) (hen : en ≤ len) (hl : len ≤ 400) : Ct G yX2_endName cX2_endName 1 none 2 0 0 z (RH σ len srt sta en va ta fa s) [.ref 18] none z (RH σ len 1 sta (enL tp len en) va ta fa s) := by
  refine Ct.ofJ RX2 rfl [some (.ref 18)] rfl (by decide) Nat.le.refl ?_
  suffices H : ∀ (k e : Nat), e ≤ len → len < e + k → fstN (fun j => !isLt (tp j)) (len - e) e = enL tp len en → J G RX2 cX2_endName 1 none (TQ G 2 0 0 none z (RH σ len 1 sta (enL tp len en) va ta fa s)) z (RH σ len srt sta e va ta fa s) 0 0 0 [some (.ref 18)] [] from H (len + 1) en hen (by omega) rfl
  intro k
  induction k with
  | zero => intro e h1 h2; exact absurd h2 (by omega)
  | succ k ih =>
    intro e h1 h2 hf
    refine j_aload_n dX2_endName_0 rfl rfl ?_
    refine j_getf dX2_endName_1 2 5 rfl (Nat.le_of_ble_eq_true rfl) fl_X2_22 in_2 (by first | exact ups_a | exact RH_tape h19 | exact RH_dr) rfl ?_
    refine j_aload_n dX2_endName_4 rfl rfl ?_
    refine j_getf dX2_endName_5 2 2 rfl (Nat.le_of_ble_eq_true rfl) fl_X2_118 in_2 (by first | exact ups_a | exact RH_tape h19 | exact RH_dr) rfl ?_
    refine j_icmp_geN 39 dX2_endName_8 (by decide) (by omega) (by omega) (fun b8 => ?_) (fun b8 => ?_)
    · refine j_aload_n dX2_endName_39 rfl rfl ?_
      refine j_iconst (nI 1) dX2_endName_40 rfl ?_
      refine j_putf dX2_endName_41 2 3 rfl (Nat.le_of_ble_eq_true rfl) fl_X2_42 in_2 tyX2 tyX2_ok nmX2 rfl rfl (by first | exact ups_a | exact RH_tape h19 | exact RH_dr) (Nat.le_of_ble_eq_true rfl) _ (by exact ups_ups) ?_
      exact j_vret rfl dX2_endName_44 (by first | (rw [show len - e = 0 by omega] at hf; rw [← hf]; rfl) | (obtain ⟨n, hn⟩ : ∃ n, len - e = n + 1 := ⟨len - e - 1, by omega⟩; rw [hn] at hf; unfold fstN at hf; rw [if_pos (by rw [b2I_0 b23]; rfl)] at hf; rw [← hf]; rfl)) (Nat.le_of_ble_eq_true rfl) (Nat.le_of_ble_eq_true rfl)
    · refine j_aload_n dX2_endName_11 rfl rfl ?_
      refine j_getf dX2_endName_12 2 0 rfl (Nat.le_of_ble_eq_true rfl) fl_X2_9 in_2 (by first | exact ups_a | exact RH_tape h19 | exact RH_dr) rfl ?_
      refine j_aload_n dX2_endName_15 rfl rfl ?_
      refine j_getf dX2_endName_16 2 5 rfl (Nat.le_of_ble_eq_true rfl) fl_X2_22 in_2 (by first | exact ups_a | exact RH_tape h19 | exact RH_dr) rfl ?_
      refine j_bald dX2_endName_19 (by first | exact ups_a | exact RH_tape h19 | exact RH_dr) rfl (by omega) (by decide) ?_
      refine j_callS (c_isLetter _) dX2_endName_20 rfl ms_X2_123 ⟨(Nat.le_of_ble_eq_true rfl), (Nat.le_of_ble_eq_true rfl)⟩ ⟨(Nat.le_of_ble_eq_true rfl), (Nat.le_of_ble_eq_true rfl)⟩ (Nat.le_of_ble_eq_true rfl) ?_
      refine j_if_eq 39 dX2_endName_23 (by decide) (fun b23 => ?_) (fun b23 => ?_)
      · refine j_aload_n dX2_endName_39 rfl rfl ?_
        refine j_iconst (nI 1) dX2_endName_40 rfl ?_
        refine j_putf dX2_endName_41 2 3 rfl (Nat.le_of_ble_eq_true rfl) fl_X2_42 in_2 tyX2 tyX2_ok nmX2 rfl rfl (by first | exact ups_a | exact RH_tape h19 | exact RH_dr) (Nat.le_of_ble_eq_true rfl) _ (by exact ups_ups) ?_
        exact j_vret rfl dX2_endName_44 (by first | (rw [show len - e = 0 by omega] at hf; rw [← hf]; rfl) | (obtain ⟨n, hn⟩ : ∃ n, len - e = n + 1 := ⟨len - e - 1, by omega⟩; rw [hn] at hf; unfold fstN at hf; rw [if_pos (by rw [b2I_0 b23]; rfl)] at hf; rw [← hf]; rfl)) (Nat.le_of_ble_eq_true rfl) (Nat.le_of_ble_eq_true rfl)
      · refine j_aload_n dX2_endName_26 rfl rfl ?_
        refine j_dup dX2_endName_27 rfl ?_
        refine j_getf dX2_endName_28 2 5 rfl (Nat.le_of_ble_eq_true rfl) fl_X2_22 in_2 (by first | exact ups_a | exact RH_tape h19 | exact RH_dr) rfl ?_
        refine j_iconst (nI 1) dX2_endName_31 rfl ?_
        first | refine j_iaddN dX2_endName_32 ?_ | refine j_iadd dX2_endName_32 ?_
        refine j_putf dX2_endName_33 2 5 rfl (Nat.le_of_ble_eq_true rfl) fl_X2_22 in_2 tyX2 tyX2_ok nmX2 rfl rfl (by first | exact ups_a | exact RH_tape h19 | exact RH_dr) (Nat.le_of_ble_eq_true rfl) _ (by exact ups_ups) ?_
        refine j_goto 0 dX2_endName_36 (by decide) ?_
        refine ih (e + 1) (by omega) (by omega) ?_
        rw [show len - e = (len - (e + 1)) + 1 by omega] at hf
        rw [← hf]
        show _ = if (!isLt (tp e)) = true then e else fstN (fun j => !isLt (tp j)) (len - (e + 1)) (e + 1)
        rw [if_neg (by rw [b2I_1 b23]; decide)]
theorem c_endNumber (h19 : σ 19 = some (.inl (1, 400, tp))) (hen : sta ≤ len) (hl : len ≤ 400) : Ct G yX2_endNumber cX2_endNumber 1 none 2 0 0 z (RH σ len srt sta sta va ta fa s) [.ref 18] none z (RH σ len (if enF tp len sta - sta ≤ 3 then 2 else 4) sta (enF tp len sta) (vlF tp sta (enF tp len sta - sta)) ta fa s) := by
  refine Ct.ofJ RX2 rfl [some (.ref 18)] rfl (by decide) Nat.le.refl ?_
  refine j_aload_n dX2_endNumber_0 rfl rfl ?_
  refine j_iconst (nI 0) dX2_endNumber_1 rfl ?_
  refine j_putf dX2_endNumber_2 2 6 rfl (Nat.le_of_ble_eq_true rfl) fl_X2_115 in_2 tyX2 tyX2_ok nmX2 rfl rfl (by first | exact ups_a | exact RH_tape h19 | exact RH_dr) (Nat.le_of_ble_eq_true rfl) _ (by exact ups_ups) ?_
  suffices H : ∀ (k i : Nat), sta + i ≤ len → len < sta + i + k → fstN (fun j => !isFg (tp j)) (len - (sta + i)) (sta + i) = enF tp len sta → J G RX2 cX2_endNumber 1 none (TQ G 2 0 0 none z (RH σ len (if enF tp len sta - sta ≤ 3 then 2 else 4) sta (enF tp len sta) (vlF tp sta (enF tp len sta - sta)) ta fa s)) z (RH σ len srt sta (sta + i) (vlF tp sta i) ta fa s) 0 0 5 [some (.ref 18)] [] from H (len + 1) 0 (by omega) (by omega) rfl
  intro k
  induction k with
  | zero => intro i h1 h2; exact absurd h2 (by omega)
  | succ k ih =>
    intro i h1 h2 hf
    have hend : sta + i = enF tp len sta → J G RX2 cX2_endNumber 1 none (TQ G 2 0 0 none z (RH σ len (if enF tp len sta - sta ≤ 3 then 2 else 4) sta (enF tp len sta) (vlF tp sta (enF tp len sta - sta)) ta fa s)) z (RH σ len srt sta (sta + i) (vlF tp sta i) ta fa s) 0 0 81 [some (.ref 18)] [] := by
      intro he
      rw [← he, Nat.add_sub_cancel_left]
      refine j_aload_n dX2_endNumber_81 rfl rfl ?_
      refine j_aload_n dX2_endNumber_82 rfl rfl ?_
      refine j_getf dX2_endNumber_83 2 5 rfl (Nat.le_of_ble_eq_true rfl) fl_X2_22 in_2 (by first | exact ups_a | exact RH_tape h19 | exact RH_dr) rfl ?_
      refine j_aload_n dX2_endNumber_86 rfl rfl ?_
      refine j_getf dX2_endNumber_87 2 4 rfl (Nat.le_of_ble_eq_true rfl) fl_X2_102 in_2 (by first | exact ups_a | exact RH_tape h19 | exact RH_dr) rfl ?_
      refine j_isubN dX2_endNumber_90 (by omega) ?_
      refine j_top (nI i) (by rw [Nat.add_sub_cancel_left]) ?_
      refine j_iconst (nI 3) dX2_endNumber_91 rfl ?_
      refine j_icmp_gtN 99 dX2_endNumber_92 (by decide) (by omega) (by omega) (fun b92 => ?_) (fun b92 => ?_)
      · refine j_iconst (nI 4) dX2_endNumber_99 rfl ?_
        refine j_putf dX2_endNumber_100 2 3 rfl (Nat.le_of_ble_eq_true rfl) fl_X2_42 in_2 tyX2 tyX2_ok nmX2 rfl rfl (by first | exact ups_a | exact RH_tape h19 | exact RH_dr) (Nat.le_of_ble_eq_true rfl) _ (by exact ups_ups) ?_
        exact j_vret rfl dX2_endNumber_103 (by first | (rw [if_pos b92]; rfl) | (rw [if_neg (by omega)]; rfl)) (Nat.le_of_ble_eq_true rfl) (Nat.le_of_ble_eq_true rfl)
      · refine j_iconst (nI 2) dX2_endNumber_95 rfl ?_
        refine j_goto 100 dX2_endNumber_96 (by decide) ?_
        refine j_putf dX2_endNumber_100 2 3 rfl (Nat.le_of_ble_eq_true rfl) fl_X2_42 in_2 tyX2 tyX2_ok nmX2 rfl rfl (by first | exact ups_a | exact RH_tape h19 | exact RH_dr) (Nat.le_of_ble_eq_true rfl) _ (by exact ups_ups) ?_
        exact j_vret rfl dX2_endNumber_103 (by first | (rw [if_pos b92]; rfl) | (rw [if_neg (by omega)]; rfl)) (Nat.le_of_ble_eq_true rfl) (Nat.le_of_ble_eq_true rfl)
    have hgo : ∀ x, vlF tp sta (i + 1) = x → isFg (tp (sta + i)) = true → sta + i < len → J G RX2 cX2_endNumber 1 none (TQ G 2 0 0 none z (RH σ len (if enF tp len sta - sta ≤ 3 then 2 else 4) sta (enF tp len sta) (vlF tp sta (enF tp len sta - sta)) ta fa s)) z (RH σ len srt sta (sta + i) x ta fa s) 0 0 68 [some (.ref 18)] [] := by
      intro x hx hfg hlt
      subst hx
      refine j_aload_n dX2_endNumber_68 rfl rfl ?_
      refine j_dup dX2_endNumber_69 rfl ?_
      refine j_getf dX2_endNumber_70 2 5 rfl (Nat.le_of_ble_eq_true rfl) fl_X2_22 in_2 (by first | exact ups_a | exact RH_tape h19 | exact RH_dr) rfl ?_
      refine j_iconst (nI 1) dX2_endNumber_73 rfl ?_
      first | refine j_iaddN dX2_endNumber_74 ?_ | refine j_iadd dX2_endNumber_74 ?_
      refine j_putf dX2_endNumber_75 2 5 rfl (Nat.le_of_ble_eq_true rfl) fl_X2_22 in_2 tyX2 tyX2_ok nmX2 rfl rfl (by first | exact ups_a | exact RH_tape h19 | exact RH_dr) (Nat.le_of_ble_eq_true rfl) _ (by exact ups_ups) ?_
      refine j_goto 5 dX2_endNumber_78 (by decide) ?_
      refine ih (i + 1) (by omega) (by omega) ?_
      rw [show len - (sta + i) = (len - (sta + (i + 1))) + 1 by omega] at hf
      rw [← hf]
      show _ = if (!isFg (tp (sta + i))) = true then sta + i else fstN (fun j => !isFg (tp j)) (len - (sta + (i + 1))) (sta + i + 1)
      rw [if_neg (by rw [hfg]; decide)]
      rfl
    refine j_aload_n dX2_endNumber_5 rfl rfl ?_
    refine j_getf dX2_endNumber_6 2 5 rfl (Nat.le_of_ble_eq_true rfl) fl_X2_22 in_2 (by first | exact ups_a | exact RH_tape h19 | exact RH_dr) rfl ?_
    refine j_aload_n dX2_endNumber_9 rfl rfl ?_
    refine j_getf dX2_endNumber_10 2 2 rfl (Nat.le_of_ble_eq_true rfl) fl_X2_118 in_2 (by first | exact ups_a | exact RH_tape h19 | exact RH_dr) rfl ?_
    refine j_icmp_geN 81 dX2_endNumber_13 (by decide) (by omega) (by omega) (fun b13 => ?_) (fun b13 => ?_)
    · refine hend ?_
      first | (rw [show len - (sta + i) = 0 by omega] at hf; exact hf) | (obtain ⟨n, hn⟩ : ∃ n, len - (sta + i) = n + 1 := ⟨len - (sta + i) - 1, by omega⟩; rw [hn] at hf; unfold fstN at hf; rw [if_pos (by rw [b2I_0 b28]; rfl)] at hf; exact hf)
    · refine j_aload_n dX2_endNumber_16 rfl rfl ?_
      refine j_getf dX2_endNumber_17 2 0 rfl (Nat.le_of_ble_eq_true rfl) fl_X2_9 in_2 (by first | exact ups_a | exact RH_tape h19 | exact RH_dr) rfl ?_
      refine j_aload_n dX2_endNumber_20 rfl rfl ?_
      refine j_getf dX2_endNumber_21 2 5 rfl (Nat.le_of_ble_eq_true rfl) fl_X2_22 in_2 (by first | exact ups_a | exact RH_tape h19 | exact RH_dr) rfl ?_
      refine j_bald dX2_endNumber_24 (by first | exact ups_a | exact RH_tape h19 | exact RH_dr) rfl (by omega) (by decide) ?_
      refine j_callS (c_isFigure _) dX2_endNumber_25 rfl ms_X2_129 ⟨(Nat.le_of_ble_eq_true rfl), (Nat.le_of_ble_eq_true rfl)⟩ ⟨(Nat.le_of_ble_eq_true rfl), (Nat.le_of_ble_eq_true rfl)⟩ (Nat.le_of_ble_eq_true rfl) ?_
      refine j_if_eq 81 dX2_endNumber_28 (by decide) (fun b28 => ?_) (fun b28 => ?_)
      · refine hend ?_
        first | (rw [show len - (sta + i) = 0 by omega] at hf; exact hf) | (obtain ⟨n, hn⟩ : ∃ n, len - (sta + i) = n + 1 := ⟨len - (sta + i) - 1, by omega⟩; rw [hn] at hf; unfold fstN at hf; rw [if_pos (by rw [b2I_0 b28]; rfl)] at hf; exact hf)
      · refine j_aload_n dX2_endNumber_31 rfl rfl ?_
        refine j_getf dX2_endNumber_32 2 5 rfl (Nat.le_of_ble_eq_true rfl) fl_X2_22 in_2 (by first | exact ups_a | exact RH_tape h19 | exact RH_dr) rfl ?_
        refine j_aload_n dX2_endNumber_35 rfl rfl ?_
        refine j_getf dX2_endNumber_36 2 4 rfl (Nat.le_of_ble_eq_true rfl) fl_X2_102 in_2 (by first | exact ups_a | exact RH_tape h19 | exact RH_dr) rfl ?_
        refine j_isubN dX2_endNumber_39 (by omega) ?_
        refine j_top (nI i) (by rw [Nat.add_sub_cancel_left]) ?_
        refine j_iconst (nI 3) dX2_endNumber_40 rfl ?_
        refine j_icmp_geN 68 dX2_endNumber_41 (by decide) (by omega) (by omega) (fun b41 => ?_) (fun b41 => ?_)
        · refine hgo _ ?_ (b2I_1 b28) (by omega)
          first | (show (if i < 3 then _ else _) = _; rw [if_pos b41]) | (show (if i < 3 then _ else _) = _; rw [if_neg (by omega)])
        · refine j_aload_n dX2_endNumber_44 rfl rfl ?_
          refine j_bipush (nI 10) dX2_endNumber_45 rfl ?_
          refine j_aload_n dX2_endNumber_47 rfl rfl ?_
          refine j_getf dX2_endNumber_48 2 6 rfl (Nat.le_of_ble_eq_true rfl) fl_X2_115 in_2 (by first | exact ups_a | exact RH_tape h19 | exact RH_dr) rfl ?_
          refine j_imul dX2_endNumber_51 ?_
          refine j_aload_n dX2_endNumber_52 rfl rfl ?_
          refine j_getf dX2_endNumber_53 2 0 rfl (Nat.le_of_ble_eq_true rfl) fl_X2_9 in_2 (by first | exact ups_a | exact RH_tape h19 | exact RH_dr) rfl ?_
          refine j_aload_n dX2_endNumber_56 rfl rfl ?_
          refine j_getf dX2_endNumber_57 2 5 rfl (Nat.le_of_ble_eq_true rfl) fl_X2_22 in_2 (by first | exact ups_a | exact RH_tape h19 | exact RH_dr) rfl ?_
          refine j_bald dX2_endNumber_60 (by first | exact ups_a | exact RH_tape h19 | exact RH_dr) rfl (by omega) (by decide) ?_
          refine j_iadd dX2_endNumber_61 ?_
          refine j_bipush (nI 48) dX2_endNumber_62 rfl ?_
          refine j_isub dX2_endNumber_64 ?_
          refine j_putf dX2_endNumber_65 2 6 rfl (Nat.le_of_ble_eq_true rfl) fl_X2_115 in_2 tyX2 tyX2_ok nmX2 rfl rfl (by first | exact ups_a | exact RH_tape h19 | exact RH_dr) (Nat.le_of_ble_eq_true rfl) _ (by exact ups_ups) ?_
          refine hgo _ ?_ (b2I_1 b28) (by omega)
          first | (show (if i < 3 then _ else _) = _; rw [if_pos b41]) | (show (if i < 3 then _ else _) = _; rw [if_neg (by omega)])
end K2

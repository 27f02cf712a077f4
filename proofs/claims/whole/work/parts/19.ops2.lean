/-! THE CLASS's calls that are acts -/
theorem j_tabK {G : GG} {oR : String} {oc : ByteArray} {on : Nat} {ort : Option FieldType} {T : TG} {z kc ks pc : Nat} {σ : AH} {L : List (Option Value)} {st : List Value} {dflt lo hi : Int} {offs : Array Int} {len : Nat} {x : Int32} {off : Int} (k tgt : Nat) (hd : decode oc pc = .ok (.tableswitch dflt lo hi offs, len)) (hx : x = nI k) (hk : k < 2 ^ 31) (h1 : ¬ (k : Int) < lo) (h2 : ¬ hi < (k : Int)) (ho : offs[((k : Int) - lo).toNat]? = some off) (ht : (pc : Int) + off = (tgt : Int)) (kk : J G oR oc on ort T z σ kc ks tgt L st) : J G oR oc on ort T z σ kc ks pc L (.int x :: st) := by
  subst hx
  have e := nI_toInt hk
  exact j_tabIn tgt hd (by rw [e]; exact h1) (by rw [e]; exact h2) (by rw [e]; exact ho) ht kk
theorem npI_k {k N : Nat} (h : k < N) (hN : N ≤ 7) : npI (nI k) N = nI 0 := by
  unfold npI
  rw [if_neg (nI_pos (by omega)), if_pos (nI_lt h (by omega))]
theorem nqI_k {p q N : Nat} (hp : p < N) (hq : q < N) (hpq : p ≠ q) (hN : N ≤ 7) : nqI (nI p) (nI q) N = nI 0 := by
  unfold nqI
  rw [if_pos (show npI (nI p) N = 0 from npI_k hp hN), if_pos (show npI (nI q) N = 0 from npI_k hq hN), if_neg (fun e => hpq ((nI_eq (by omega) (by omega)).mp e))]
theorem ntI_k {N : Nat} (h : 1 ≤ N) (hN : N ≤ 7) : ntI N = nI 0 := by
  unfold ntI
  rw [if_neg (nI_ne0 h (by omega))]
theorem Tat.setP {σ : AH} {t : Nat} {s : TS} (h : Tat σ t s) {pa2 : Nat → Int32} : ups σ (t + 3) (.inl (0, 7, pa2)) = twS σ t (sC s, sI s, pa2, sD s, sN s, sU s, sR s, sQ s, sH s, sF s) := by
  have h2 := tws_p (σ := σ) (t := t) (ca := sC s) (inc := sI s) (pa := sP s) (de := sD s) (pe := nI (sN s)) (un := nI (sU s)) (ra := nI (sR s)) (qu := nI (sQ s)) (hi := sH s) (fa := sF s) (pa2 := pa2)
  rw [show tw σ t (sC s) (sI s) (sP s) (sD s) (nI (sN s)) (nI (sU s)) (nI (sR s)) (nI (sQ s)) (sH s) (sF s) = σ from h] at h2
  exact h2
theorem Tat.setH {σ : AH} {t : Nat} {s : TS} (h : Tat σ t s) {hi2 : Int32} : ups σ t (.inr (.inr (4, [.ref (t + 1), .ref (t + 2), .ref (t + 3), .ref (t + 4), .int (nI (sN s)), .int (nI (sU s)), .int (nI (sR s)), .int (nI (sQ s)), .int hi2, .int (sF s)]))) = twS σ t (sC s, sI s, sP s, sD s, sN s, sU s, sR s, sQ s, hi2, sF s) := by
  have h2 := tws_o (σ := σ) (t := t) (ca := sC s) (inc := sI s) (pa := sP s) (de := sD s) (pe := nI (sN s)) (un := nI (sU s)) (ra := nI (sR s)) (qu := nI (sQ s)) (hi := sH s) (fa := sF s) (pe2 := nI (sN s)) (un2 := nI (sU s)) (ra2 := nI (sR s)) (qu2 := nI (sQ s)) (hi2 := hi2) (fa2 := sF s)
  rw [show tw σ t (sC s) (sI s) (sP s) (sD s) (nI (sN s)) (nI (sU s)) (nI (sR s)) (nI (sQ s)) (sH s) (sF s) = σ from h] at h2
  exact h2
/-- the heap behind 'keep' -/
abbrev kpH (σ : AH) (nx kp : Nat) (d : TS) : AH := ups (twS σ (37 + 5 * nx) d) 35 (xA (nxt nx) (min (kp + 1) 24))
theorem dX5_loan_0 : decode cX5_loan 0 = .ok (.aload_n 0, 1) := by decide +kernel
theorem dX5_loan_1 : decode cX5_loan 1 = .ok (.iload_n 1, 1) := by decide +kernel
theorem dX5_loan_2 : decode cX5_loan 2 = .ok (.iload_n 2, 1) := by decide +kernel
theorem dX5_loan_3 : decode cX5_loan 3 = .ok (.invokevirtual 134, 3) := by decide +kernel
theorem dX5_loan_6 : decode cX5_loan 6 = .ok (.ifCond .ne 15, 3) := by decide +kernel
theorem dX5_loan_9 : decode cX5_loan 9 = .ok (.iload_n 3, 1) := by decide +kernel
theorem dX5_loan_10 : decode cX5_loan 10 = .ok (.iconst 1, 1) := by decide +kernel
theorem dX5_loan_11 : decode cX5_loan 11 = .ok (.if_icmp .lt 10, 3) := by decide +kernel
theorem dX5_loan_14 : decode cX5_loan 14 = .ok (.iload_n 3, 1) := by decide +kernel
theorem dX5_loan_15 : decode cX5_loan 15 = .ok (.sipush 999, 3) := by decide +kernel
theorem dX5_loan_18 : decode cX5_loan 18 = .ok (.if_icmp .le 6, 3) := by decide +kernel
theorem dX5_loan_21 : decode cX5_loan 21 = .ok (.ldc 59, 2) := by decide +kernel
theorem dX5_loan_23 : decode cX5_loan 23 = .ok (.ireturn, 1) := by decide +kernel
theorem dX5_loan_24 : decode cX5_loan 24 = .ok (.aload_n 0, 1) := by decide +kernel
theorem dX5_loan_25 : decode cX5_loan 25 = .ok (.getfield 26, 3) := by decide +kernel
theorem dX5_loan_28 : decode cX5_loan 28 = .ok (.getfield 137, 3) := by decide +kernel
theorem dX5_loan_31 : decode cX5_loan 31 = .ok (.iload_n 2, 1) := by decide +kernel
theorem dX5_loan_32 : decode cX5_loan 32 = .ok (.iaload, 1) := by decide +kernel
theorem dX5_loan_33 : decode cX5_loan 33 = .ok (.iload_n 3, 1) := by decide +kernel
theorem dX5_loan_34 : decode cX5_loan 34 = .ok (.if_icmp .ge 6, 3) := by decide +kernel
theorem dX5_loan_37 : decode cX5_loan 37 = .ok (.ldc 140, 2) := by decide +kernel
theorem dX5_loan_39 : decode cX5_loan 39 = .ok (.ireturn, 1) := by decide +kernel
theorem dX5_loan_40 : decode cX5_loan 40 = .ok (.aload_n 0, 1) := by decide +kernel
theorem dX5_loan_41 : decode cX5_loan 41 = .ok (.getfield 26, 3) := by decide +kernel
theorem dX5_loan_44 : decode cX5_loan 44 = .ok (.iload_n 1, 1) := by decide +kernel
theorem dX5_loan_45 : decode cX5_loan 45 = .ok (.iload_n 2, 1) := by decide +kernel
theorem dX5_loan_46 : decode cX5_loan 46 = .ok (.invokevirtual 141, 3) := by decide +kernel
theorem dX5_loan_49 : decode cX5_loan 49 = .ok (.iload_n 3, 1) := by decide +kernel
theorem dX5_loan_50 : decode cX5_loan 50 = .ok (.iadd, 1) := by decide +kernel
theorem dX5_loan_51 : decode cX5_loan 51 = .ok (.istore 4, 2) := by decide +kernel
theorem dX5_loan_53 : decode cX5_loan 53 = .ok (.iload 4, 2) := by decide +kernel
theorem dX5_loan_55 : decode cX5_loan 55 = .ok (.ldc 144, 2) := by decide +kernel
theorem dX5_loan_57 : decode cX5_loan 57 = .ok (.if_icmp .le 6, 3) := by decide +kernel
theorem dX5_loan_60 : decode cX5_loan 60 = .ok (.ldc 103, 2) := by decide +kernel
theorem dX5_loan_62 : decode cX5_loan 62 = .ok (.ireturn, 1) := by decide +kernel
theorem dX5_loan_63 : decode cX5_loan 63 = .ok (.aload_n 0, 1) := by decide +kernel
theorem dX5_loan_64 : decode cX5_loan 64 = .ok (.getfield 36, 3) := by decide +kernel
theorem dX5_loan_67 : decode cX5_loan 67 = .ok (.aload_n 0, 1) := by decide +kernel
theorem dX5_loan_68 : decode cX5_loan 68 = .ok (.getfield 26, 3) := by decide +kernel
theorem dX5_loan_71 : decode cX5_loan 71 = .ok (.invokevirtual 145, 3) := by decide +kernel
theorem dX5_loan_74 : decode cX5_loan 74 = .ok (.aload_n 0, 1) := by decide +kernel
theorem dX5_loan_75 : decode cX5_loan 75 = .ok (.getfield 26, 3) := by decide +kernel
theorem dX5_loan_78 : decode cX5_loan 78 = .ok (.iload_n 2, 1) := by decide +kernel
theorem dX5_loan_79 : decode cX5_loan 79 = .ok (.iload_n 1, 1) := by decide +kernel
theorem dX5_loan_80 : decode cX5_loan 80 = .ok (.iload_n 3, 1) := by decide +kernel
theorem dX5_loan_81 : decode cX5_loan 81 = .ok (.invokevirtual 148, 3) := by decide +kernel
theorem dX5_loan_84 : decode cX5_loan 84 = .ok (.iload 4, 2) := by decide +kernel
theorem dX5_loan_86 : decode cX5_loan 86 = .ok (.ireturn, 1) := by decide +kernel
theorem dX5_pay_0 : decode cX5_pay 0 = .ok (.aload_n 0, 1) := by decide +kernel
theorem dX5_pay_1 : decode cX5_pay 1 = .ok (.iload_n 1, 1) := by decide +kernel
theorem dX5_pay_2 : decode cX5_pay 2 = .ok (.iload_n 2, 1) := by decide +kernel
theorem dX5_pay_3 : decode cX5_pay 3 = .ok (.invokevirtual 134, 3) := by decide +kernel
theorem dX5_pay_6 : decode cX5_pay 6 = .ok (.ifCond .ne 14, 3) := by decide +kernel
theorem dX5_pay_9 : decode cX5_pay 9 = .ok (.iload_n 3, 1) := by decide +kernel
theorem dX5_pay_10 : decode cX5_pay 10 = .ok (.iconst 1, 1) := by decide +kernel
theorem dX5_pay_11 : decode cX5_pay 11 = .ok (.if_icmp .lt 9, 3) := by decide +kernel
theorem dX5_pay_14 : decode cX5_pay 14 = .ok (.iload_n 3, 1) := by decide +kernel
theorem dX5_pay_15 : decode cX5_pay 15 = .ok (.ldc 144, 2) := by decide +kernel
theorem dX5_pay_17 : decode cX5_pay 17 = .ok (.if_icmp .le 6, 3) := by decide +kernel
theorem dX5_pay_20 : decode cX5_pay 20 = .ok (.ldc 59, 2) := by decide +kernel
theorem dX5_pay_22 : decode cX5_pay 22 = .ok (.ireturn, 1) := by decide +kernel
theorem dX5_pay_23 : decode cX5_pay 23 = .ok (.aload_n 0, 1) := by decide +kernel
theorem dX5_pay_24 : decode cX5_pay 24 = .ok (.getfield 26, 3) := by decide +kernel
theorem dX5_pay_27 : decode cX5_pay 27 = .ok (.iload_n 1, 1) := by decide +kernel
theorem dX5_pay_28 : decode cX5_pay 28 = .ok (.iload_n 2, 1) := by decide +kernel
theorem dX5_pay_29 : decode cX5_pay 29 = .ok (.invokevirtual 141, 3) := by decide +kernel
theorem dX5_pay_32 : decode cX5_pay 32 = .ok (.iload_n 3, 1) := by decide +kernel
theorem dX5_pay_33 : decode cX5_pay 33 = .ok (.if_icmp .lt 16, 3) := by decide +kernel
theorem dX5_pay_36 : decode cX5_pay 36 = .ok (.aload_n 0, 1) := by decide +kernel
theorem dX5_pay_37 : decode cX5_pay 37 = .ok (.getfield 26, 3) := by decide +kernel
theorem dX5_pay_40 : decode cX5_pay 40 = .ok (.getfield 137, 3) := by decide +kernel
theorem dX5_pay_43 : decode cX5_pay 43 = .ok (.iload_n 1, 1) := by decide +kernel
theorem dX5_pay_44 : decode cX5_pay 44 = .ok (.iaload, 1) := by decide +kernel
theorem dX5_pay_45 : decode cX5_pay 45 = .ok (.iload_n 3, 1) := by decide +kernel
theorem dX5_pay_46 : decode cX5_pay 46 = .ok (.if_icmp .ge 6, 3) := by decide +kernel
theorem dX5_pay_49 : decode cX5_pay 49 = .ok (.ldc 140, 2) := by decide +kernel
theorem dX5_pay_51 : decode cX5_pay 51 = .ok (.ireturn, 1) := by decide +kernel
theorem dX5_pay_52 : decode cX5_pay 52 = .ok (.aload_n 0, 1) := by decide +kernel
theorem dX5_pay_53 : decode cX5_pay 53 = .ok (.getfield 36, 3) := by decide +kernel
theorem dX5_pay_56 : decode cX5_pay 56 = .ok (.aload_n 0, 1) := by decide +kernel
theorem dX5_pay_57 : decode cX5_pay 57 = .ok (.getfield 26, 3) := by decide +kernel
theorem dX5_pay_60 : decode cX5_pay 60 = .ok (.invokevirtual 145, 3) := by decide +kernel
theorem dX5_pay_63 : decode cX5_pay 63 = .ok (.aload_n 0, 1) := by decide +kernel
theorem dX5_pay_64 : decode cX5_pay 64 = .ok (.getfield 26, 3) := by decide +kernel
theorem dX5_pay_67 : decode cX5_pay 67 = .ok (.iload_n 1, 1) := by decide +kernel
theorem dX5_pay_68 : decode cX5_pay 68 = .ok (.iload_n 2, 1) := by decide +kernel
theorem dX5_pay_69 : decode cX5_pay 69 = .ok (.iload_n 3, 1) := by decide +kernel
theorem dX5_pay_70 : decode cX5_pay 70 = .ok (.invokevirtual 152, 3) := by decide +kernel
theorem dX5_pay_73 : decode cX5_pay 73 = .ok (.aload_n 0, 1) := by decide +kernel
theorem dX5_pay_74 : decode cX5_pay 74 = .ok (.getfield 26, 3) := by decide +kernel
theorem dX5_pay_77 : decode cX5_pay 77 = .ok (.iload_n 1, 1) := by decide +kernel
theorem dX5_pay_78 : decode cX5_pay 78 = .ok (.iload_n 2, 1) := by decide +kernel
theorem dX5_pay_79 : decode cX5_pay 79 = .ok (.invokevirtual 141, 3) := by decide +kernel
theorem dX5_pay_82 : decode cX5_pay 82 = .ok (.ireturn, 1) := by decide +kernel
theorem dX5_paint_0 : decode cX5_paint 0 = .ok (.aload_n 0, 1) := by decide +kernel
theorem dX5_paint_1 : decode cX5_paint 1 = .ok (.iload_n 1, 1) := by decide +kernel
theorem dX5_paint_2 : decode cX5_paint 2 = .ok (.invokevirtual 155, 3) := by decide +kernel
theorem dX5_paint_5 : decode cX5_paint 5 = .ok (.ifCond .ne 13, 3) := by decide +kernel
theorem dX5_paint_8 : decode cX5_paint 8 = .ok (.iload_n 2, 1) := by decide +kernel
theorem dX5_paint_9 : decode cX5_paint 9 = .ok (.ifCond .lt 9, 3) := by decide +kernel
theorem dX5_paint_12 : decode cX5_paint 12 = .ok (.iload_n 2, 1) := by decide +kernel
theorem dX5_paint_13 : decode cX5_paint 13 = .ok (.bipush 9, 2) := by decide +kernel
theorem dX5_paint_15 : decode cX5_paint 15 = .ok (.if_icmp .le 6, 3) := by decide +kernel
theorem dX5_paint_18 : decode cX5_paint 18 = .ok (.ldc 59, 2) := by decide +kernel
theorem dX5_paint_20 : decode cX5_paint 20 = .ok (.ireturn, 1) := by decide +kernel
theorem dX5_paint_21 : decode cX5_paint 21 = .ok (.aload_n 0, 1) := by decide +kernel
theorem dX5_paint_22 : decode cX5_paint 22 = .ok (.getfield 26, 3) := by decide +kernel
theorem dX5_paint_25 : decode cX5_paint 25 = .ok (.iload_n 1, 1) := by decide +kernel
theorem dX5_paint_26 : decode cX5_paint 26 = .ok (.invokevirtual 158, 3) := by decide +kernel
theorem dX5_paint_29 : decode cX5_paint 29 = .ok (.istore_n 3, 1) := by decide +kernel
theorem dX5_paint_30 : decode cX5_paint 30 = .ok (.aload_n 0, 1) := by decide +kernel
theorem dX5_paint_31 : decode cX5_paint 31 = .ok (.getfield 36, 3) := by decide +kernel
theorem dX5_paint_34 : decode cX5_paint 34 = .ok (.aload_n 0, 1) := by decide +kernel
theorem dX5_paint_35 : decode cX5_paint 35 = .ok (.getfield 26, 3) := by decide +kernel
theorem dX5_paint_38 : decode cX5_paint 38 = .ok (.invokevirtual 145, 3) := by decide +kernel
theorem dX5_paint_41 : decode cX5_paint 41 = .ok (.aload_n 0, 1) := by decide +kernel
theorem dX5_paint_42 : decode cX5_paint 42 = .ok (.getfield 26, 3) := by decide +kernel
theorem dX5_paint_45 : decode cX5_paint 45 = .ok (.getfield 161, 3) := by decide +kernel
theorem dX5_paint_48 : decode cX5_paint 48 = .ok (.iload_n 1, 1) := by decide +kernel
theorem dX5_paint_49 : decode cX5_paint 49 = .ok (.iload_n 2, 1) := by decide +kernel
theorem dX5_paint_50 : decode cX5_paint 50 = .ok (.iastore, 1) := by decide +kernel
theorem dX5_paint_51 : decode cX5_paint 51 = .ok (.iload_n 3, 1) := by decide +kernel
theorem dX5_paint_52 : decode cX5_paint 52 = .ok (.ireturn, 1) := by decide +kernel
theorem dX5_hedge_0 : decode cX5_hedge 0 = .ok (.aload_n 0, 1) := by decide +kernel
theorem dX5_hedge_1 : decode cX5_hedge 1 = .ok (.iload_n 1, 1) := by decide +kernel
theorem dX5_hedge_2 : decode cX5_hedge 2 = .ok (.invokevirtual 155, 3) := by decide +kernel
theorem dX5_hedge_5 : decode cX5_hedge 5 = .ok (.ifCond .ne 12, 3) := by decide +kernel
theorem dX5_hedge_8 : decode cX5_hedge 8 = .ok (.iload_n 2, 1) := by decide +kernel
theorem dX5_hedge_9 : decode cX5_hedge 9 = .ok (.ifCond .lt 8, 3) := by decide +kernel
theorem dX5_hedge_12 : decode cX5_hedge 12 = .ok (.iload_n 2, 1) := by decide +kernel
theorem dX5_hedge_13 : decode cX5_hedge 13 = .ok (.iconst 1, 1) := by decide +kernel
theorem dX5_hedge_14 : decode cX5_hedge 14 = .ok (.if_icmp .le 6, 3) := by decide +kernel
theorem dX5_hedge_17 : decode cX5_hedge 17 = .ok (.ldc 59, 2) := by decide +kernel
theorem dX5_hedge_19 : decode cX5_hedge 19 = .ok (.ireturn, 1) := by decide +kernel
theorem dX5_hedge_20 : decode cX5_hedge 20 = .ok (.aload_n 0, 1) := by decide +kernel
theorem dX5_hedge_21 : decode cX5_hedge 21 = .ok (.getfield 26, 3) := by decide +kernel
theorem dX5_hedge_24 : decode cX5_hedge 24 = .ok (.getfield 164, 3) := by decide +kernel
theorem dX5_hedge_27 : decode cX5_hedge 27 = .ok (.iload_n 1, 1) := by decide +kernel
theorem dX5_hedge_28 : decode cX5_hedge 28 = .ok (.invokestatic 167, 3) := by decide +kernel
theorem dX5_hedge_31 : decode cX5_hedge 31 = .ok (.istore_n 3, 1) := by decide +kernel
theorem dX5_hedge_32 : decode cX5_hedge 32 = .ok (.aload_n 0, 1) := by decide +kernel
theorem dX5_hedge_33 : decode cX5_hedge 33 = .ok (.getfield 36, 3) := by decide +kernel
theorem dX5_hedge_36 : decode cX5_hedge 36 = .ok (.aload_n 0, 1) := by decide +kernel
theorem dX5_hedge_37 : decode cX5_hedge 37 = .ok (.getfield 26, 3) := by decide +kernel
theorem dX5_hedge_40 : decode cX5_hedge 40 = .ok (.invokevirtual 145, 3) := by decide +kernel
theorem dX5_hedge_43 : decode cX5_hedge 43 = .ok (.aload_n 0, 1) := by decide +kernel
theorem dX5_hedge_44 : decode cX5_hedge 44 = .ok (.getfield 26, 3) := by decide +kernel
theorem dX5_hedge_47 : decode cX5_hedge 47 = .ok (.aload_n 0, 1) := by decide +kernel
theorem dX5_hedge_48 : decode cX5_hedge 48 = .ok (.getfield 26, 3) := by decide +kernel
theorem dX5_hedge_51 : decode cX5_hedge 51 = .ok (.getfield 164, 3) := by decide +kernel
theorem dX5_hedge_54 : decode cX5_hedge 54 = .ok (.iconst 1, 1) := by decide +kernel
theorem dX5_hedge_55 : decode cX5_hedge 55 = .ok (.iload_n 1, 1) := by decide +kernel
theorem dX5_hedge_56 : decode cX5_hedge 56 = .ok (.ishl, 1) := by decide +kernel
theorem dX5_hedge_57 : decode cX5_hedge 57 = .ok (.iconst (-1), 1) := by decide +kernel
theorem dX5_hedge_58 : decode cX5_hedge 58 = .ok (.ixor, 1) := by decide +kernel
theorem dX5_hedge_59 : decode cX5_hedge 59 = .ok (.iand, 1) := by decide +kernel
theorem dX5_hedge_60 : decode cX5_hedge 60 = .ok (.iload_n 2, 1) := by decide +kernel
theorem dX5_hedge_61 : decode cX5_hedge 61 = .ok (.iload_n 1, 1) := by decide +kernel
theorem dX5_hedge_62 : decode cX5_hedge 62 = .ok (.ishl, 1) := by decide +kernel
theorem dX5_hedge_63 : decode cX5_hedge 63 = .ok (.ior, 1) := by decide +kernel
theorem dX5_hedge_64 : decode cX5_hedge 64 = .ok (.putfield 164, 3) := by decide +kernel
theorem dX5_hedge_67 : decode cX5_hedge 67 = .ok (.iload_n 3, 1) := by decide +kernel
theorem dX5_hedge_68 : decode cX5_hedge 68 = .ok (.ireturn, 1) := by decide +kernel
theorem dX5_quarter_0 : decode cX5_quarter 0 = .ok (.aload_n 0, 1) := by decide +kernel
theorem dX5_quarter_1 : decode cX5_quarter 1 = .ok (.invokevirtual 170, 3) := by decide +kernel
theorem dX5_quarter_4 : decode cX5_quarter 4 = .ok (.ifCond .eq 6, 3) := by decide +kernel
theorem dX5_quarter_7 : decode cX5_quarter 7 = .ok (.ldc 140, 2) := by decide +kernel
theorem dX5_quarter_9 : decode cX5_quarter 9 = .ok (.ireturn, 1) := by decide +kernel
theorem dX5_quarter_10 : decode cX5_quarter 10 = .ok (.iload_n 1, 1) := by decide +kernel
theorem dX5_quarter_11 : decode cX5_quarter 11 = .ok (.ifCond .lt 9, 3) := by decide +kernel
theorem dX5_quarter_14 : decode cX5_quarter 14 = .ok (.iload_n 1, 1) := by decide +kernel
theorem dX5_quarter_15 : decode cX5_quarter 15 = .ok (.ldc 173, 2) := by decide +kernel
theorem dX5_quarter_17 : decode cX5_quarter 17 = .ok (.if_icmp .le 6, 3) := by decide +kernel
theorem dX5_quarter_20 : decode cX5_quarter 20 = .ok (.ldc 59, 2) := by decide +kernel
theorem dX5_quarter_22 : decode cX5_quarter 22 = .ok (.ireturn, 1) := by decide +kernel
theorem dX5_quarter_23 : decode cX5_quarter 23 = .ok (.aload_n 0, 1) := by decide +kernel
theorem dX5_quarter_24 : decode cX5_quarter 24 = .ok (.getfield 26, 3) := by decide +kernel
theorem dX5_quarter_27 : decode cX5_quarter 27 = .ok (.getfield 174, 3) := by decide +kernel
theorem dX5_quarter_30 : decode cX5_quarter 30 = .ok (.sipush 999, 3) := by decide +kernel
theorem dX5_quarter_33 : decode cX5_quarter 33 = .ok (.if_icmp .lt 6, 3) := by decide +kernel
theorem dX5_quarter_36 : decode cX5_quarter 36 = .ok (.ldc 103, 2) := by decide +kernel
theorem dX5_quarter_38 : decode cX5_quarter 38 = .ok (.ireturn, 1) := by decide +kernel
theorem dX5_quarter_39 : decode cX5_quarter 39 = .ok (.aload_n 0, 1) := by decide +kernel
theorem dX5_quarter_40 : decode cX5_quarter 40 = .ok (.getfield 36, 3) := by decide +kernel
theorem dX5_quarter_43 : decode cX5_quarter 43 = .ok (.aload_n 0, 1) := by decide +kernel
theorem dX5_quarter_44 : decode cX5_quarter 44 = .ok (.getfield 26, 3) := by decide +kernel
theorem dX5_quarter_47 : decode cX5_quarter 47 = .ok (.invokevirtual 145, 3) := by decide +kernel
theorem dX5_quarter_50 : decode cX5_quarter 50 = .ok (.aload_n 0, 1) := by decide +kernel
theorem dX5_quarter_51 : decode cX5_quarter 51 = .ok (.getfield 26, 3) := by decide +kernel
theorem dX5_quarter_54 : decode cX5_quarter 54 = .ok (.iload_n 1, 1) := by decide +kernel
theorem dX5_quarter_55 : decode cX5_quarter 55 = .ok (.invokevirtual 177, 3) := by decide +kernel
theorem dX5_quarter_58 : decode cX5_quarter 58 = .ok (.aload_n 0, 1) := by decide +kernel
theorem dX5_quarter_59 : decode cX5_quarter 59 = .ok (.getfield 26, 3) := by decide +kernel
theorem dX5_quarter_62 : decode cX5_quarter 62 = .ok (.getfield 174, 3) := by decide +kernel
theorem dX5_quarter_65 : decode cX5_quarter 65 = .ok (.ireturn, 1) := by decide +kernel
theorem dX5_undo_0 : decode cX5_undo 0 = .ok (.aload_n 0, 1) := by decide +kernel
theorem dX5_undo_1 : decode cX5_undo 1 = .ok (.getfield 36, 3) := by decide +kernel
theorem dX5_undo_4 : decode cX5_undo 4 = .ok (.getfield 181, 3) := by decide +kernel
theorem dX5_undo_7 : decode cX5_undo 7 = .ok (.ifCond .ne 6, 3) := by decide +kernel
theorem dX5_undo_10 : decode cX5_undo 10 = .ok (.ldc 140, 2) := by decide +kernel
theorem dX5_undo_12 : decode cX5_undo 12 = .ok (.ireturn, 1) := by decide +kernel
theorem dX5_undo_13 : decode cX5_undo 13 = .ok (.aload_n 0, 1) := by decide +kernel
theorem dX5_undo_14 : decode cX5_undo 14 = .ok (.getfield 36, 3) := by decide +kernel
theorem dX5_undo_17 : decode cX5_undo 17 = .ok (.aload_n 0, 1) := by decide +kernel
theorem dX5_undo_18 : decode cX5_undo 18 = .ok (.getfield 26, 3) := by decide +kernel
theorem dX5_undo_21 : decode cX5_undo 21 = .ok (.invokevirtual 184, 3) := by decide +kernel
theorem dX5_undo_24 : decode cX5_undo 24 = .ok (.aload_n 0, 1) := by decide +kernel
theorem dX5_undo_25 : decode cX5_undo 25 = .ok (.getfield 36, 3) := by decide +kernel
theorem dX5_undo_28 : decode cX5_undo 28 = .ok (.getfield 181, 3) := by decide +kernel
theorem dX5_undo_31 : decode cX5_undo 31 = .ok (.ireturn, 1) := by decide +kernel
theorem dX5_person_0 : decode cX5_person 0 = .ok (.aload_n 0, 1) := by decide +kernel
theorem dX5_person_1 : decode cX5_person 1 = .ok (.iload_n 1, 1) := by decide +kernel
theorem dX5_person_2 : decode cX5_person 2 = .ok (.invokevirtual 155, 3) := by decide +kernel
theorem dX5_person_5 : decode cX5_person 5 = .ok (.ifCond .eq 6, 3) := by decide +kernel
theorem dX5_person_8 : decode cX5_person 8 = .ok (.ldc 59, 2) := by decide +kernel
theorem dX5_person_10 : decode cX5_person 10 = .ok (.ireturn, 1) := by decide +kernel
theorem dX5_person_11 : decode cX5_person 11 = .ok (.iload_n 2, 1) := by decide +kernel
theorem dX5_person_12 : decode cX5_person 12 = .ok (.bipush 10, 2) := by decide +kernel
theorem dX5_person_14 : decode cX5_person 14 = .ok (.if_icmp .lt 30, 3) := by decide +kernel
theorem dX5_person_17 : decode cX5_person 17 = .ok (.iload_n 2, 1) := by decide +kernel
theorem dX5_person_18 : decode cX5_person 18 = .ok (.bipush 10, 2) := by decide +kernel
theorem dX5_person_20 : decode cX5_person 20 = .ok (.aload_n 0, 1) := by decide +kernel
theorem dX5_person_21 : decode cX5_person 21 = .ok (.getfield 26, 3) := by decide +kernel
theorem dX5_person_24 : decode cX5_person 24 = .ok (.getfield 131, 3) := by decide +kernel
theorem dX5_person_27 : decode cX5_person 27 = .ok (.iadd, 1) := by decide +kernel
theorem dX5_person_28 : decode cX5_person 28 = .ok (.if_icmp .ge 16, 3) := by decide +kernel
theorem dX5_person_31 : decode cX5_person 31 = .ok (.aload_n 0, 1) := by decide +kernel
theorem dX5_person_32 : decode cX5_person 32 = .ok (.getfield 26, 3) := by decide +kernel
theorem dX5_person_35 : decode cX5_person 35 = .ok (.iload_n 1, 1) := by decide +kernel
theorem dX5_person_36 : decode cX5_person 36 = .ok (.iload_n 2, 1) := by decide +kernel
theorem dX5_person_37 : decode cX5_person 37 = .ok (.bipush 10, 2) := by decide +kernel
theorem dX5_person_39 : decode cX5_person 39 = .ok (.isub, 1) := by decide +kernel
theorem dX5_person_40 : decode cX5_person 40 = .ok (.invokevirtual 141, 3) := by decide +kernel
theorem dX5_person_43 : decode cX5_person 43 = .ok (.ireturn, 1) := by decide +kernel
theorem dX5_person_44 : decode cX5_person 44 = .ok (.iload_n 2, 1) := by decide +kernel
theorem dX5_person_45 : decode cX5_person 45 = .ok (.tableswitch 136 0 7 #[47, 57, 67, 76, 85, 94, 106, 118], 47) := by decide +kernel
theorem dX5_person_92 : decode cX5_person 92 = .ok (.aload_n 0, 1) := by decide +kernel
theorem dX5_person_93 : decode cX5_person 93 = .ok (.getfield 26, 3) := by decide +kernel
theorem dX5_person_96 : decode cX5_person 96 = .ok (.getfield 137, 3) := by decide +kernel
theorem dX5_person_99 : decode cX5_person 99 = .ok (.iload_n 1, 1) := by decide +kernel
theorem dX5_person_100 : decode cX5_person 100 = .ok (.iaload, 1) := by decide +kernel
theorem dX5_person_101 : decode cX5_person 101 = .ok (.ireturn, 1) := by decide +kernel
theorem dX5_person_102 : decode cX5_person 102 = .ok (.aload_n 0, 1) := by decide +kernel
theorem dX5_person_103 : decode cX5_person 103 = .ok (.getfield 26, 3) := by decide +kernel
theorem dX5_person_106 : decode cX5_person 106 = .ok (.getfield 187, 3) := by decide +kernel
theorem dX5_person_109 : decode cX5_person 109 = .ok (.iload_n 1, 1) := by decide +kernel
theorem dX5_person_110 : decode cX5_person 110 = .ok (.iaload, 1) := by decide +kernel
theorem dX5_person_111 : decode cX5_person 111 = .ok (.ireturn, 1) := by decide +kernel
theorem dX5_person_112 : decode cX5_person 112 = .ok (.aload_n 0, 1) := by decide +kernel
theorem dX5_person_113 : decode cX5_person 113 = .ok (.getfield 26, 3) := by decide +kernel
theorem dX5_person_116 : decode cX5_person 116 = .ok (.iload_n 1, 1) := by decide +kernel
theorem dX5_person_117 : decode cX5_person 117 = .ok (.invokevirtual 190, 3) := by decide +kernel
theorem dX5_person_120 : decode cX5_person 120 = .ok (.ireturn, 1) := by decide +kernel
theorem dX5_person_121 : decode cX5_person 121 = .ok (.aload_n 0, 1) := by decide +kernel
theorem dX5_person_122 : decode cX5_person 122 = .ok (.getfield 26, 3) := by decide +kernel
theorem dX5_person_125 : decode cX5_person 125 = .ok (.iload_n 1, 1) := by decide +kernel
theorem dX5_person_126 : decode cX5_person 126 = .ok (.invokevirtual 193, 3) := by decide +kernel
theorem dX5_person_129 : decode cX5_person 129 = .ok (.ireturn, 1) := by decide +kernel
theorem dX5_person_130 : decode cX5_person 130 = .ok (.aload_n 0, 1) := by decide +kernel
theorem dX5_person_131 : decode cX5_person 131 = .ok (.getfield 26, 3) := by decide +kernel
theorem dX5_person_134 : decode cX5_person 134 = .ok (.iload_n 1, 1) := by decide +kernel
theorem dX5_person_135 : decode cX5_person 135 = .ok (.invokevirtual 158, 3) := by decide +kernel
theorem dX5_person_138 : decode cX5_person 138 = .ok (.ireturn, 1) := by decide +kernel
theorem dX5_person_139 : decode cX5_person 139 = .ok (.aload_n 0, 1) := by decide +kernel
theorem dX5_person_140 : decode cX5_person 140 = .ok (.getfield 26, 3) := by decide +kernel
theorem dX5_person_143 : decode cX5_person 143 = .ok (.getfield 164, 3) := by decide +kernel
theorem dX5_person_146 : decode cX5_person 146 = .ok (.iload_n 1, 1) := by decide +kernel
theorem dX5_person_147 : decode cX5_person 147 = .ok (.invokestatic 167, 3) := by decide +kernel
theorem dX5_person_150 : decode cX5_person 150 = .ok (.ireturn, 1) := by decide +kernel
theorem dX5_person_151 : decode cX5_person 151 = .ok (.aload_n 0, 1) := by decide +kernel
theorem dX5_person_152 : decode cX5_person 152 = .ok (.getfield 26, 3) := by decide +kernel
theorem dX5_person_155 : decode cX5_person 155 = .ok (.getfield 196, 3) := by decide +kernel
theorem dX5_person_158 : decode cX5_person 158 = .ok (.iload_n 1, 1) := by decide +kernel
theorem dX5_person_159 : decode cX5_person 159 = .ok (.invokestatic 167, 3) := by decide +kernel
theorem dX5_person_162 : decode cX5_person 162 = .ok (.ireturn, 1) := by decide +kernel
theorem dX5_person_163 : decode cX5_person 163 = .ok (.aload_n 0, 1) := by decide +kernel
theorem dX5_person_164 : decode cX5_person 164 = .ok (.getfield 26, 3) := by decide +kernel
theorem dX5_person_167 : decode cX5_person 167 = .ok (.iload_n 1, 1) := by decide +kernel
theorem dX5_person_168 : decode cX5_person 168 = .ok (.invokevirtual 199, 3) := by decide +kernel
theorem dX5_person_171 : decode cX5_person 171 = .ok (.aload_n 0, 1) := by decide +kernel
theorem dX5_person_172 : decode cX5_person 172 = .ok (.getfield 26, 3) := by decide +kernel
theorem dX5_person_175 : decode cX5_person 175 = .ok (.iload_n 1, 1) := by decide +kernel
theorem dX5_person_176 : decode cX5_person 176 = .ok (.invokevirtual 190, 3) := by decide +kernel
theorem dX5_person_179 : decode cX5_person 179 = .ok (.isub, 1) := by decide +kernel
theorem dX5_person_180 : decode cX5_person 180 = .ok (.ireturn, 1) := by decide +kernel
theorem dX5_person_181 : decode cX5_person 181 = .ok (.ldc 59, 2) := by decide +kernel
theorem dX5_person_183 : decode cX5_person 183 = .ok (.ireturn, 1) := by decide +kernel
theorem dX5_fault_0 : decode cX5_fault 0 = .ok (.aload_n 0, 1) := by decide +kernel
theorem dX5_fault_1 : decode cX5_fault 1 = .ok (.getfield 114, 3) := by decide +kernel
theorem dX5_fault_4 : decode cX5_fault 4 = .ok (.ireturn, 1) := by decide +kernel
theorem dX5_status_0 : decode cX5_status 0 = .ok (.aload_n 0, 1) := by decide +kernel
theorem dX5_status_1 : decode cX5_status 1 = .ok (.getfield 255, 3) := by decide +kernel
theorem dX5_status_4 : decode cX5_status 4 = .ok (.ireturn, 1) := by decide +kernel
section O2
variable {G : GG} {z : Nat} {σ : AH} {lf fd : Int32} {rl rn : Nat → Int32} {ri : Nat → Nat → Int32} {tp rd : Nat → Int32} {dd d df : TS} {nx kp : Nat} {da di : Nat → TS} {tr : Nat} {bo ne : Nat → Int32}
theorem x_copy_bad (a i b j n : Int32) (h : ¬ nrI a = 0 ∨ ¬ nrI b = 0) : Ct G yX5_copy cX5_copy 8 (some .int) 3 0 0 z σ [.ref 0, .int a, .int i, .int b, .int j, .int n] (some (.int (-1000001))) z σ := by
  refine Ct.ofJ RX5 rfl [some (.ref 0), some (.int a), some (.int i), some (.int b), some (.int j), some (.int n), none, none] rfl (by decide) (by simp [Value.category]) ?_
  refine j_iload_n dX5_copy_0 rfl rfl ?_
  refine j_callS (c_isNoRow a) dX5_copy_1 rfl ms_X5_55 ⟨(Nat.le_of_ble_eq_true rfl), (Nat.le_of_ble_eq_true rfl)⟩ ⟨(Nat.le_of_ble_eq_true rfl), (Nat.le_of_ble_eq_true rfl)⟩ (Nat.le_of_ble_eq_true rfl) ?_
  refine j_if_ne 14 dX5_copy_4 (by decide) (fun b4 => ?_) (fun b4 => ?_)
  · refine j_ldc (-1000001) dX5_copy_14 kc_X5_59 ?_
    exact j_iret rfl dX5_copy_16 rfl rfl (Nat.le_of_ble_eq_true rfl) (Nat.le_of_ble_eq_true rfl)
  · refine j_iload_n dX5_copy_7 rfl rfl ?_
    refine j_callS (c_isNoRow b) dX5_copy_8 rfl ms_X5_55 ⟨(Nat.le_of_ble_eq_true rfl), (Nat.le_of_ble_eq_true rfl)⟩ ⟨(Nat.le_of_ble_eq_true rfl), (Nat.le_of_ble_eq_true rfl)⟩ (Nat.le_of_ble_eq_true rfl) ?_
    refine j_if_eq 17 dX5_copy_11 (by decide) (fun b11 => ?_) (fun b11 => ?_)
    · exfalso
      rcases h with h | h
      · exact h b4
      · exact h b11
    · refine j_ldc (-1000001) dX5_copy_14 kc_X5_59 ?_
      exact j_iret rfl dX5_copy_16 rfl rfl (Nat.le_of_ble_eq_true rfl) (Nat.le_of_ble_eq_true rfl)
theorem x_copy_null (X : XR σ lf fd rl rn ri tp rd dd d df nx kp da di tr bo ne) {a b : Nat} (i j n : Int32) (ha : a < 8) (hb : b < 8) (h : rl a = -1 ∨ rl b = -1) : Ct G yX5_copy cX5_copy 8 (some .int) 3 0 0 z σ [.ref 0, .int (nI a), .int i, .int (nI b), .int j, .int n] (some (.int (-1000010 - nI 1))) z (ups σ 0 (xO lf (nI 1))) := by
  refine Ct.ofJ RX5 rfl [some (.ref 0), some (.int (nI a)), some (.int i), some (.int (nI b)), some (.int j), some (.int n), none, none] rfl (by decide) (by simp [Value.category]) ?_
  refine j_iload_n dX5_copy_0 rfl rfl ?_
  refine j_callS (c_isNoRow (nI a)) dX5_copy_1 rfl ms_X5_55 ⟨(Nat.le_of_ble_eq_true rfl), (Nat.le_of_ble_eq_true rfl)⟩ ⟨(Nat.le_of_ble_eq_true rfl), (Nat.le_of_ble_eq_true rfl)⟩ (Nat.le_of_ble_eq_true rfl) ?_
  refine j_top (nI 0) (nrI_k ha) ?_
  refine j_if_ne 14 dX5_copy_4 (by decide) (fun h => absurd rfl h) (fun _ => ?_)
  refine j_iload_n dX5_copy_7 rfl rfl ?_
  refine j_callS (c_isNoRow (nI b)) dX5_copy_8 rfl ms_X5_55 ⟨(Nat.le_of_ble_eq_true rfl), (Nat.le_of_ble_eq_true rfl)⟩ ⟨(Nat.le_of_ble_eq_true rfl), (Nat.le_of_ble_eq_true rfl)⟩ (Nat.le_of_ble_eq_true rfl) ?_
  refine j_top (nI 0) (nrI_k hb) ?_
  refine j_if_eq 17 dX5_copy_11 (by decide) (fun _ => ?_) (fun h => absurd rfl h)
  refine j_aload_n dX5_copy_17 rfl rfl ?_
  refine j_getf dX5_copy_18 5 0 rfl (Nat.le_of_ble_eq_true rfl) fl_X5_11 in_5 (by first | exact X.1 | exact X.2.1 | exact X.2.2.2.1 | exact X.2.2.2.2.1 | exact X.2.2.2.2.2.2.1.o | exact X.2.2.2.2.2.2.1.c | exact X.2.2.2.2.2.2.1.i | exact X.2.2.2.2.2.2.1.p | exact X.2.2.2.2.2.2.1.d | exact X.2.2.2.2.2.2.2.1.o | exact X.2.2.2.2.2.2.2.2.1 | exact X.2.2.2.2.2.2.2.2.2.1 | exact X.2.2.2.2.2.2.2.2.2.2.2.1 | exact X.2.2.2.2.2.2.2.2.2.2.2.2.2.1 | exact X.2.2.2.2.2.2.2.2.2.2.2.2.2.2.1 | exact X.2.2.2.2.2.2.2.2.2.2.2.2.2.2.2) rfl ?_
  refine j_iload_n dX5_copy_21 rfl rfl ?_
  refine j_aaldL 3 8 2 2 dX5_copy_22 (by first | exact X.1 | exact X.2.1 | exact X.2.2.2.1 | exact X.2.2.2.2.1 | exact X.2.2.2.2.2.2.1.o | exact X.2.2.2.2.2.2.1.c | exact X.2.2.2.2.2.2.1.i | exact X.2.2.2.2.2.2.1.p | exact X.2.2.2.2.2.2.1.d | exact X.2.2.2.2.2.2.2.1.o | exact X.2.2.2.2.2.2.2.2.1 | exact X.2.2.2.2.2.2.2.2.2.1 | exact X.2.2.2.2.2.2.2.2.2.2.2.1 | exact X.2.2.2.2.2.2.2.2.2.2.2.2.2.1 | exact X.2.2.2.2.2.2.2.2.2.2.2.2.2.2.1 | exact X.2.2.2.2.2.2.2.2.2.2.2.2.2.2.2) (by decide) rfl ha (by decide) ?_
  refine j_astore dX5_copy_23 (Nat.le_of_ble_eq_true rfl) rfl ?_
  refine j_aload_n dX5_copy_25 rfl rfl ?_
  refine j_getf dX5_copy_26 5 0 rfl (Nat.le_of_ble_eq_true rfl) fl_X5_11 in_5 (by first | exact X.1 | exact X.2.1 | exact X.2.2.2.1 | exact X.2.2.2.2.1 | exact X.2.2.2.2.2.2.1.o | exact X.2.2.2.2.2.2.1.c | exact X.2.2.2.2.2.2.1.i | exact X.2.2.2.2.2.2.1.p | exact X.2.2.2.2.2.2.1.d | exact X.2.2.2.2.2.2.2.1.o | exact X.2.2.2.2.2.2.2.2.1 | exact X.2.2.2.2.2.2.2.2.2.1 | exact X.2.2.2.2.2.2.2.2.2.2.2.1 | exact X.2.2.2.2.2.2.2.2.2.2.2.2.2.1 | exact X.2.2.2.2.2.2.2.2.2.2.2.2.2.2.1 | exact X.2.2.2.2.2.2.2.2.2.2.2.2.2.2.2) rfl ?_
  refine j_iload_n dX5_copy_29 rfl rfl ?_
  refine j_aaldL 3 8 2 2 dX5_copy_30 (by first | exact X.1 | exact X.2.1 | exact X.2.2.2.1 | exact X.2.2.2.2.1 | exact X.2.2.2.2.2.2.1.o | exact X.2.2.2.2.2.2.1.c | exact X.2.2.2.2.2.2.1.i | exact X.2.2.2.2.2.2.1.p | exact X.2.2.2.2.2.2.1.d | exact X.2.2.2.2.2.2.2.1.o | exact X.2.2.2.2.2.2.2.2.1 | exact X.2.2.2.2.2.2.2.2.2.1 | exact X.2.2.2.2.2.2.2.2.2.2.2.1 | exact X.2.2.2.2.2.2.2.2.2.2.2.2.2.1 | exact X.2.2.2.2.2.2.2.2.2.2.2.2.2.2.1 | exact X.2.2.2.2.2.2.2.2.2.2.2.2.2.2.2) (by decide) rfl hb (by decide) ?_
  refine j_astore dX5_copy_31 (Nat.le_of_ble_eq_true rfl) rfl ?_
  refine j_aload dX5_copy_33 rfl ?_
  refine j_callV (c_isMissingR (X.2.2.1 a ha)) dX5_copy_35 rfl mv_X5_71 (X.2.2.1 a ha).o rfl ⟨(Nat.le_of_ble_eq_true rfl), (Nat.le_of_ble_eq_true rfl)⟩ ⟨(Nat.le_of_ble_eq_true rfl), (Nat.le_of_ble_eq_true rfl)⟩ (Nat.le_of_ble_eq_true rfl) ?_
  refine j_if_ne 49 dX5_copy_38 (by decide) (fun b38 => ?_) (fun b38 => ?_)
  · refine j_aload_n dX5_copy_49 rfl rfl ?_
    refine j_iconst (nI 1) dX5_copy_50 rfl ?_
    refine j_callV (c_found X (nI 1)) dX5_copy_51 rfl mv_X5_60 (by first | exact X.1 | exact X.2.1 | exact X.2.2.2.1 | exact X.2.2.2.2.1 | exact X.2.2.2.2.2.2.1.o | exact X.2.2.2.2.2.2.1.c | exact X.2.2.2.2.2.2.1.i | exact X.2.2.2.2.2.2.1.p | exact X.2.2.2.2.2.2.1.d | exact X.2.2.2.2.2.2.2.1.o | exact X.2.2.2.2.2.2.2.2.1 | exact X.2.2.2.2.2.2.2.2.2.1 | exact X.2.2.2.2.2.2.2.2.2.2.2.1 | exact X.2.2.2.2.2.2.2.2.2.2.2.2.2.1 | exact X.2.2.2.2.2.2.2.2.2.2.2.2.2.2.1 | exact X.2.2.2.2.2.2.2.2.2.2.2.2.2.2.2) rfl ⟨(Nat.le_of_ble_eq_true rfl), (Nat.le_of_ble_eq_true rfl)⟩ ⟨(Nat.le_of_ble_eq_true rfl), (Nat.le_of_ble_eq_true rfl)⟩ (Nat.le_of_ble_eq_true rfl) ?_
    exact j_iret rfl dX5_copy_54 rfl rfl (Nat.le_of_ble_eq_true rfl) (Nat.le_of_ble_eq_true rfl)
  · refine j_aload dX5_copy_41 rfl ?_
    refine j_callV (c_isMissingR (X.2.2.1 b hb)) dX5_copy_43 rfl mv_X5_71 (X.2.2.1 b hb).o rfl ⟨(Nat.le_of_ble_eq_true rfl), (Nat.le_of_ble_eq_true rfl)⟩ ⟨(Nat.le_of_ble_eq_true rfl), (Nat.le_of_ble_eq_true rfl)⟩ (Nat.le_of_ble_eq_true rfl) ?_
    refine j_if_eq 55 dX5_copy_46 (by decide) (fun b46 => ?_) (fun b46 => ?_)
    · exfalso
      rcases h with h | h
      · rw [if_pos h] at b38; exact absurd b38 (by decide)
      · rw [if_pos h] at b46; exact absurd b46 (by decide)
    · refine j_aload_n dX5_copy_49 rfl rfl ?_
      refine j_iconst (nI 1) dX5_copy_50 rfl ?_
      refine j_callV (c_found X (nI 1)) dX5_copy_51 rfl mv_X5_60 (by first | exact X.1 | exact X.2.1 | exact X.2.2.2.1 | exact X.2.2.2.2.1 | exact X.2.2.2.2.2.2.1.o | exact X.2.2.2.2.2.2.1.c | exact X.2.2.2.2.2.2.1.i | exact X.2.2.2.2.2.2.1.p | exact X.2.2.2.2.2.2.1.d | exact X.2.2.2.2.2.2.2.1.o | exact X.2.2.2.2.2.2.2.2.1 | exact X.2.2.2.2.2.2.2.2.2.1 | exact X.2.2.2.2.2.2.2.2.2.2.2.1 | exact X.2.2.2.2.2.2.2.2.2.2.2.2.2.1 | exact X.2.2.2.2.2.2.2.2.2.2.2.2.2.2.1 | exact X.2.2.2.2.2.2.2.2.2.2.2.2.2.2.2) rfl ⟨(Nat.le_of_ble_eq_true rfl), (Nat.le_of_ble_eq_true rfl)⟩ ⟨(Nat.le_of_ble_eq_true rfl), (Nat.le_of_ble_eq_true rfl)⟩ (Nat.le_of_ble_eq_true rfl) ?_
      exact j_iret rfl dX5_copy_54 rfl rfl (Nat.le_of_ble_eq_true rfl) (Nat.le_of_ble_eq_true rfl)
theorem x_copy_store (X : XR σ lf fd rl rn ri tp rd dd d df nx kp da di tr bo ne) {a b : Nat} (i j n : Int32) (ha : a < 8) (hb : b < 8) (h1 : ¬ rl a = -1) (h2 : ¬ rl b = -1) (h : ¬ rl a = rl b) : Ct G yX5_copy cX5_copy 8 (some .int) 3 0 0 z σ [.ref 0, .int (nI a), .int i, .int (nI b), .int j, .int n] (some (.int (-1000010 - nI 5))) z (ups σ 0 (xO lf (nI 5))) := by
  refine Ct.ofJ RX5 rfl [some (.ref 0), some (.int (nI a)), some (.int i), some (.int (nI b)), some (.int j), some (.int n), none, none] rfl (by decide) (by simp [Value.category]) ?_
  refine j_iload_n dX5_copy_0 rfl rfl ?_
  refine j_callS (c_isNoRow (nI a)) dX5_copy_1 rfl ms_X5_55 ⟨(Nat.le_of_ble_eq_true rfl), (Nat.le_of_ble_eq_true rfl)⟩ ⟨(Nat.le_of_ble_eq_true rfl), (Nat.le_of_ble_eq_true rfl)⟩ (Nat.le_of_ble_eq_true rfl) ?_
  refine j_top (nI 0) (nrI_k ha) ?_
  refine j_if_ne 14 dX5_copy_4 (by decide) (fun h => absurd rfl h) (fun _ => ?_)
  refine j_iload_n dX5_copy_7 rfl rfl ?_
  refine j_callS (c_isNoRow (nI b)) dX5_copy_8 rfl ms_X5_55 ⟨(Nat.le_of_ble_eq_true rfl), (Nat.le_of_ble_eq_true rfl)⟩ ⟨(Nat.le_of_ble_eq_true rfl), (Nat.le_of_ble_eq_true rfl)⟩ (Nat.le_of_ble_eq_true rfl) ?_
  refine j_top (nI 0) (nrI_k hb) ?_
  refine j_if_eq 17 dX5_copy_11 (by decide) (fun _ => ?_) (fun h => absurd rfl h)
  refine j_aload_n dX5_copy_17 rfl rfl ?_
  refine j_getf dX5_copy_18 5 0 rfl (Nat.le_of_ble_eq_true rfl) fl_X5_11 in_5 (by first | exact X.1 | exact X.2.1 | exact X.2.2.2.1 | exact X.2.2.2.2.1 | exact X.2.2.2.2.2.2.1.o | exact X.2.2.2.2.2.2.1.c | exact X.2.2.2.2.2.2.1.i | exact X.2.2.2.2.2.2.1.p | exact X.2.2.2.2.2.2.1.d | exact X.2.2.2.2.2.2.2.1.o | exact X.2.2.2.2.2.2.2.2.1 | exact X.2.2.2.2.2.2.2.2.2.1 | exact X.2.2.2.2.2.2.2.2.2.2.2.1 | exact X.2.2.2.2.2.2.2.2.2.2.2.2.2.1 | exact X.2.2.2.2.2.2.2.2.2.2.2.2.2.2.1 | exact X.2.2.2.2.2.2.2.2.2.2.2.2.2.2.2) rfl ?_
  refine j_iload_n dX5_copy_21 rfl rfl ?_
  refine j_aaldL 3 8 2 2 dX5_copy_22 (by first | exact X.1 | exact X.2.1 | exact X.2.2.2.1 | exact X.2.2.2.2.1 | exact X.2.2.2.2.2.2.1.o | exact X.2.2.2.2.2.2.1.c | exact X.2.2.2.2.2.2.1.i | exact X.2.2.2.2.2.2.1.p | exact X.2.2.2.2.2.2.1.d | exact X.2.2.2.2.2.2.2.1.o | exact X.2.2.2.2.2.2.2.2.1 | exact X.2.2.2.2.2.2.2.2.2.1 | exact X.2.2.2.2.2.2.2.2.2.2.2.1 | exact X.2.2.2.2.2.2.2.2.2.2.2.2.2.1 | exact X.2.2.2.2.2.2.2.2.2.2.2.2.2.2.1 | exact X.2.2.2.2.2.2.2.2.2.2.2.2.2.2.2) (by decide) rfl ha (by decide) ?_
  refine j_astore dX5_copy_23 (Nat.le_of_ble_eq_true rfl) rfl ?_
  refine j_aload_n dX5_copy_25 rfl rfl ?_
  refine j_getf dX5_copy_26 5 0 rfl (Nat.le_of_ble_eq_true rfl) fl_X5_11 in_5 (by first | exact X.1 | exact X.2.1 | exact X.2.2.2.1 | exact X.2.2.2.2.1 | exact X.2.2.2.2.2.2.1.o | exact X.2.2.2.2.2.2.1.c | exact X.2.2.2.2.2.2.1.i | exact X.2.2.2.2.2.2.1.p | exact X.2.2.2.2.2.2.1.d | exact X.2.2.2.2.2.2.2.1.o | exact X.2.2.2.2.2.2.2.2.1 | exact X.2.2.2.2.2.2.2.2.2.1 | exact X.2.2.2.2.2.2.2.2.2.2.2.1 | exact X.2.2.2.2.2.2.2.2.2.2.2.2.2.1 | exact X.2.2.2.2.2.2.2.2.2.2.2.2.2.2.1 | exact X.2.2.2.2.2.2.2.2.2.2.2.2.2.2.2) rfl ?_
  refine j_iload_n dX5_copy_29 rfl rfl ?_
  refine j_aaldL 3 8 2 2 dX5_copy_30 (by first | exact X.1 | exact X.2.1 | exact X.2.2.2.1 | exact X.2.2.2.2.1 | exact X.2.2.2.2.2.2.1.o | exact X.2.2.2.2.2.2.1.c | exact X.2.2.2.2.2.2.1.i | exact X.2.2.2.2.2.2.1.p | exact X.2.2.2.2.2.2.1.d | exact X.2.2.2.2.2.2.2.1.o | exact X.2.2.2.2.2.2.2.2.1 | exact X.2.2.2.2.2.2.2.2.2.1 | exact X.2.2.2.2.2.2.2.2.2.2.2.1 | exact X.2.2.2.2.2.2.2.2.2.2.2.2.2.1 | exact X.2.2.2.2.2.2.2.2.2.2.2.2.2.2.1 | exact X.2.2.2.2.2.2.2.2.2.2.2.2.2.2.2) (by decide) rfl hb (by decide) ?_
  refine j_astore dX5_copy_31 (Nat.le_of_ble_eq_true rfl) rfl ?_
  refine j_aload dX5_copy_33 rfl ?_
  refine j_callV (c_isMissingR (X.2.2.1 a ha)) dX5_copy_35 rfl mv_X5_71 (X.2.2.1 a ha).o rfl ⟨(Nat.le_of_ble_eq_true rfl), (Nat.le_of_ble_eq_true rfl)⟩ ⟨(Nat.le_of_ble_eq_true rfl), (Nat.le_of_ble_eq_true rfl)⟩ (Nat.le_of_ble_eq_true rfl) ?_
  refine j_top (nI 0) (if_neg h1) ?_
  refine j_if_ne 49 dX5_copy_38 (by decide) (fun h => absurd rfl h) (fun _ => ?_)
  refine j_aload dX5_copy_41 rfl ?_
  refine j_callV (c_isMissingR (X.2.2.1 b hb)) dX5_copy_43 rfl mv_X5_71 (X.2.2.1 b hb).o rfl ⟨(Nat.le_of_ble_eq_true rfl), (Nat.le_of_ble_eq_true rfl)⟩ ⟨(Nat.le_of_ble_eq_true rfl), (Nat.le_of_ble_eq_true rfl)⟩ (Nat.le_of_ble_eq_true rfl) ?_
  refine j_top (nI 0) (if_neg h2) ?_
  refine j_if_eq 55 dX5_copy_46 (by decide) (fun _ => ?_) (fun h => absurd rfl h)
  refine j_aload dX5_copy_55 rfl ?_
  refine j_getf dX5_copy_57 3 1 rfl (Nat.le_of_ble_eq_true rfl) fl_X5_83 in_3 (X.2.2.1 a ha).o rfl ?_
  refine j_aload dX5_copy_60 rfl ?_
  refine j_getf dX5_copy_62 3 1 rfl (Nat.le_of_ble_eq_true rfl) fl_X5_83 in_3 (X.2.2.1 b hb).o rfl ?_
  refine j_icmp_eq 74 dX5_copy_65 (by decide) (fun b65 => ?_) (fun b65 => ?_)
  · exact absurd b65 h
  · refine j_aload_n dX5_copy_68 rfl rfl ?_
    refine j_iconst (nI 5) dX5_copy_69 rfl ?_
    refine j_callV (c_found X (nI 5)) dX5_copy_70 rfl mv_X5_60 (by first | exact X.1 | exact X.2.1 | exact X.2.2.2.1 | exact X.2.2.2.2.1 | exact X.2.2.2.2.2.2.1.o | exact X.2.2.2.2.2.2.1.c | exact X.2.2.2.2.2.2.1.i | exact X.2.2.2.2.2.2.1.p | exact X.2.2.2.2.2.2.1.d | exact X.2.2.2.2.2.2.2.1.o | exact X.2.2.2.2.2.2.2.2.1 | exact X.2.2.2.2.2.2.2.2.2.1 | exact X.2.2.2.2.2.2.2.2.2.2.2.1 | exact X.2.2.2.2.2.2.2.2.2.2.2.2.2.1 | exact X.2.2.2.2.2.2.2.2.2.2.2.2.2.2.1 | exact X.2.2.2.2.2.2.2.2.2.2.2.2.2.2.2) rfl ⟨(Nat.le_of_ble_eq_true rfl), (Nat.le_of_ble_eq_true rfl)⟩ ⟨(Nat.le_of_ble_eq_true rfl), (Nat.le_of_ble_eq_true rfl)⟩ (Nat.le_of_ble_eq_true rfl) ?_
    exact j_iret rfl dX5_copy_73 rfl rfl (Nat.le_of_ble_eq_true rfl) (Nat.le_of_ble_eq_true rfl)
theorem x_copy_place (X : XR σ lf fd rl rn ri tp rd dd d df nx kp da di tr bo ne) {a b : Nat} (i j n : Int32) (ha : a < 8) (hb : b < 8) (h1 : ¬ rl a = -1) (h2 : ¬ rl b = -1) (h : rl a = rl b) (hr : rngI i n (rn a) = nI 0 ∨ rngI j n (rn b) = nI 0) : Ct G yX5_copy cX5_copy 8 (some .int) 3 0 0 z σ [.ref 0, .int (nI a), .int i, .int (nI b), .int j, .int n] (some (.int (-1000010 - nI 2))) z (ups σ 0 (xO lf (nI 2))) := by
  refine Ct.ofJ RX5 rfl [some (.ref 0), some (.int (nI a)), some (.int i), some (.int (nI b)), some (.int j), some (.int n), none, none] rfl (by decide) (by simp [Value.category]) ?_
  refine j_iload_n dX5_copy_0 rfl rfl ?_
  refine j_callS (c_isNoRow (nI a)) dX5_copy_1 rfl ms_X5_55 ⟨(Nat.le_of_ble_eq_true rfl), (Nat.le_of_ble_eq_true rfl)⟩ ⟨(Nat.le_of_ble_eq_true rfl), (Nat.le_of_ble_eq_true rfl)⟩ (Nat.le_of_ble_eq_true rfl) ?_
  refine j_top (nI 0) (nrI_k ha) ?_
  refine j_if_ne 14 dX5_copy_4 (by decide) (fun h => absurd rfl h) (fun _ => ?_)
  refine j_iload_n dX5_copy_7 rfl rfl ?_
  refine j_callS (c_isNoRow (nI b)) dX5_copy_8 rfl ms_X5_55 ⟨(Nat.le_of_ble_eq_true rfl), (Nat.le_of_ble_eq_true rfl)⟩ ⟨(Nat.le_of_ble_eq_true rfl), (Nat.le_of_ble_eq_true rfl)⟩ (Nat.le_of_ble_eq_true rfl) ?_
  refine j_top (nI 0) (nrI_k hb) ?_
  refine j_if_eq 17 dX5_copy_11 (by decide) (fun _ => ?_) (fun h => absurd rfl h)
  refine j_aload_n dX5_copy_17 rfl rfl ?_
  refine j_getf dX5_copy_18 5 0 rfl (Nat.le_of_ble_eq_true rfl) fl_X5_11 in_5 (by first | exact X.1 | exact X.2.1 | exact X.2.2.2.1 | exact X.2.2.2.2.1 | exact X.2.2.2.2.2.2.1.o | exact X.2.2.2.2.2.2.1.c | exact X.2.2.2.2.2.2.1.i | exact X.2.2.2.2.2.2.1.p | exact X.2.2.2.2.2.2.1.d | exact X.2.2.2.2.2.2.2.1.o | exact X.2.2.2.2.2.2.2.2.1 | exact X.2.2.2.2.2.2.2.2.2.1 | exact X.2.2.2.2.2.2.2.2.2.2.2.1 | exact X.2.2.2.2.2.2.2.2.2.2.2.2.2.1 | exact X.2.2.2.2.2.2.2.2.2.2.2.2.2.2.1 | exact X.2.2.2.2.2.2.2.2.2.2.2.2.2.2.2) rfl ?_
  refine j_iload_n dX5_copy_21 rfl rfl ?_
  refine j_aaldL 3 8 2 2 dX5_copy_22 (by first | exact X.1 | exact X.2.1 | exact X.2.2.2.1 | exact X.2.2.2.2.1 | exact X.2.2.2.2.2.2.1.o | exact X.2.2.2.2.2.2.1.c | exact X.2.2.2.2.2.2.1.i | exact X.2.2.2.2.2.2.1.p | exact X.2.2.2.2.2.2.1.d | exact X.2.2.2.2.2.2.2.1.o | exact X.2.2.2.2.2.2.2.2.1 | exact X.2.2.2.2.2.2.2.2.2.1 | exact X.2.2.2.2.2.2.2.2.2.2.2.1 | exact X.2.2.2.2.2.2.2.2.2.2.2.2.2.1 | exact X.2.2.2.2.2.2.2.2.2.2.2.2.2.2.1 | exact X.2.2.2.2.2.2.2.2.2.2.2.2.2.2.2) (by decide) rfl ha (by decide) ?_
  refine j_astore dX5_copy_23 (Nat.le_of_ble_eq_true rfl) rfl ?_
  refine j_aload_n dX5_copy_25 rfl rfl ?_
  refine j_getf dX5_copy_26 5 0 rfl (Nat.le_of_ble_eq_true rfl) fl_X5_11 in_5 (by first | exact X.1 | exact X.2.1 | exact X.2.2.2.1 | exact X.2.2.2.2.1 | exact X.2.2.2.2.2.2.1.o | exact X.2.2.2.2.2.2.1.c | exact X.2.2.2.2.2.2.1.i | exact X.2.2.2.2.2.2.1.p | exact X.2.2.2.2.2.2.1.d | exact X.2.2.2.2.2.2.2.1.o | exact X.2.2.2.2.2.2.2.2.1 | exact X.2.2.2.2.2.2.2.2.2.1 | exact X.2.2.2.2.2.2.2.2.2.2.2.1 | exact X.2.2.2.2.2.2.2.2.2.2.2.2.2.1 | exact X.2.2.2.2.2.2.2.2.2.2.2.2.2.2.1 | exact X.2.2.2.2.2.2.2.2.2.2.2.2.2.2.2) rfl ?_
  refine j_iload_n dX5_copy_29 rfl rfl ?_
  refine j_aaldL 3 8 2 2 dX5_copy_30 (by first | exact X.1 | exact X.2.1 | exact X.2.2.2.1 | exact X.2.2.2.2.1 | exact X.2.2.2.2.2.2.1.o | exact X.2.2.2.2.2.2.1.c | exact X.2.2.2.2.2.2.1.i | exact X.2.2.2.2.2.2.1.p | exact X.2.2.2.2.2.2.1.d | exact X.2.2.2.2.2.2.2.1.o | exact X.2.2.2.2.2.2.2.2.1 | exact X.2.2.2.2.2.2.2.2.2.1 | exact X.2.2.2.2.2.2.2.2.2.2.2.1 | exact X.2.2.2.2.2.2.2.2.2.2.2.2.2.1 | exact X.2.2.2.2.2.2.2.2.2.2.2.2.2.2.1 | exact X.2.2.2.2.2.2.2.2.2.2.2.2.2.2.2) (by decide) rfl hb (by decide) ?_
  refine j_astore dX5_copy_31 (Nat.le_of_ble_eq_true rfl) rfl ?_
  refine j_aload dX5_copy_33 rfl ?_
  refine j_callV (c_isMissingR (X.2.2.1 a ha)) dX5_copy_35 rfl mv_X5_71 (X.2.2.1 a ha).o rfl ⟨(Nat.le_of_ble_eq_true rfl), (Nat.le_of_ble_eq_true rfl)⟩ ⟨(Nat.le_of_ble_eq_true rfl), (Nat.le_of_ble_eq_true rfl)⟩ (Nat.le_of_ble_eq_true rfl) ?_
  refine j_top (nI 0) (if_neg h1) ?_
  refine j_if_ne 49 dX5_copy_38 (by decide) (fun h => absurd rfl h) (fun _ => ?_)
  refine j_aload dX5_copy_41 rfl ?_
  refine j_callV (c_isMissingR (X.2.2.1 b hb)) dX5_copy_43 rfl mv_X5_71 (X.2.2.1 b hb).o rfl ⟨(Nat.le_of_ble_eq_true rfl), (Nat.le_of_ble_eq_true rfl)⟩ ⟨(Nat.le_of_ble_eq_true rfl), (Nat.le_of_ble_eq_true rfl)⟩ (Nat.le_of_ble_eq_true rfl) ?_
  refine j_top (nI 0) (if_neg h2) ?_
  refine j_if_eq 55 dX5_copy_46 (by decide) (fun _ => ?_) (fun h => absurd rfl h)
  refine j_aload dX5_copy_55 rfl ?_
  refine j_getf dX5_copy_57 3 1 rfl (Nat.le_of_ble_eq_true rfl) fl_X5_83 in_3 (X.2.2.1 a ha).o rfl ?_
  refine j_aload dX5_copy_60 rfl ?_
  refine j_getf dX5_copy_62 3 1 rfl (Nat.le_of_ble_eq_true rfl) fl_X5_83 in_3 (X.2.2.1 b hb).o rfl ?_
  refine j_icmp_eq 74 dX5_copy_65 (by decide) (fun b65 => ?_) (fun b65 => ?_)
  · refine j_aload dX5_copy_74 rfl ?_
    refine j_iload_n dX5_copy_76 rfl rfl ?_
    refine j_iload dX5_copy_77 rfl ?_
    refine j_callV (c_hasRangeR (X.2.2.1 a ha) i n) dX5_copy_79 rfl mv_X5_75 (X.2.2.1 a ha).o rfl ⟨(Nat.le_of_ble_eq_true rfl), (Nat.le_of_ble_eq_true rfl)⟩ ⟨(Nat.le_of_ble_eq_true rfl), (Nat.le_of_ble_eq_true rfl)⟩ (Nat.le_of_ble_eq_true rfl) ?_
    refine j_if_eq 97 dX5_copy_82 (by decide) (fun b82 => ?_) (fun b82 => ?_)
    · refine j_aload_n dX5_copy_97 rfl rfl ?_
      refine j_iconst (nI 2) dX5_copy_98 rfl ?_
      refine j_callV (c_found X (nI 2)) dX5_copy_99 rfl mv_X5_60 (by first | exact X.1 | exact X.2.1 | exact X.2.2.2.1 | exact X.2.2.2.2.1 | exact X.2.2.2.2.2.2.1.o | exact X.2.2.2.2.2.2.1.c | exact X.2.2.2.2.2.2.1.i | exact X.2.2.2.2.2.2.1.p | exact X.2.2.2.2.2.2.1.d | exact X.2.2.2.2.2.2.2.1.o | exact X.2.2.2.2.2.2.2.2.1 | exact X.2.2.2.2.2.2.2.2.2.1 | exact X.2.2.2.2.2.2.2.2.2.2.2.1 | exact X.2.2.2.2.2.2.2.2.2.2.2.2.2.1 | exact X.2.2.2.2.2.2.2.2.2.2.2.2.2.2.1 | exact X.2.2.2.2.2.2.2.2.2.2.2.2.2.2.2) rfl ⟨(Nat.le_of_ble_eq_true rfl), (Nat.le_of_ble_eq_true rfl)⟩ ⟨(Nat.le_of_ble_eq_true rfl), (Nat.le_of_ble_eq_true rfl)⟩ (Nat.le_of_ble_eq_true rfl) ?_
      exact j_iret rfl dX5_copy_102 rfl rfl (Nat.le_of_ble_eq_true rfl) (Nat.le_of_ble_eq_true rfl)
    · refine j_aload dX5_copy_85 rfl ?_
      refine j_iload dX5_copy_87 rfl ?_
      refine j_iload dX5_copy_89 rfl ?_
      refine j_callV (c_hasRangeR (X.2.2.1 b hb) j n) dX5_copy_91 rfl mv_X5_75 (X.2.2.1 b hb).o rfl ⟨(Nat.le_of_ble_eq_true rfl), (Nat.le_of_ble_eq_true rfl)⟩ ⟨(Nat.le_of_ble_eq_true rfl), (Nat.le_of_ble_eq_true rfl)⟩ (Nat.le_of_ble_eq_true rfl) ?_
      refine j_if_ne 103 dX5_copy_94 (by decide) (fun b94 => ?_) (fun b94 => ?_)
      · exfalso
        rcases hr with hr | hr
        · exact b82 hr
        · exact b94 hr
      · refine j_aload_n dX5_copy_97 rfl rfl ?_
        refine j_iconst (nI 2) dX5_copy_98 rfl ?_
        refine j_callV (c_found X (nI 2)) dX5_copy_99 rfl mv_X5_60 (by first | exact X.1 | exact X.2.1 | exact X.2.2.2.1 | exact X.2.2.2.2.1 | exact X.2.2.2.2.2.2.1.o | exact X.2.2.2.2.2.2.1.c | exact X.2.2.2.2.2.2.1.i | exact X.2.2.2.2.2.2.1.p | exact X.2.2.2.2.2.2.1.d | exact X.2.2.2.2.2.2.2.1.o | exact X.2.2.2.2.2.2.2.2.1 | exact X.2.2.2.2.2.2.2.2.2.1 | exact X.2.2.2.2.2.2.2.2.2.2.2.1 | exact X.2.2.2.2.2.2.2.2.2.2.2.2.2.1 | exact X.2.2.2.2.2.2.2.2.2.2.2.2.2.2.1 | exact X.2.2.2.2.2.2.2.2.2.2.2.2.2.2.2) rfl ⟨(Nat.le_of_ble_eq_true rfl), (Nat.le_of_ble_eq_true rfl)⟩ ⟨(Nat.le_of_ble_eq_true rfl), (Nat.le_of_ble_eq_true rfl)⟩ (Nat.le_of_ble_eq_true rfl) ?_
        exact j_iret rfl dX5_copy_102 rfl rfl (Nat.le_of_ble_eq_true rfl) (Nat.le_of_ble_eq_true rfl)
  · exact absurd h b65
theorem x_copy_ok (X : XR σ lf fd rl rn ri tp rd dd d df nx kp da di tr bo ne) {a b i j n : Nat} (ha : a < 8) (hb : b < 8) (h1 : ¬ rl a = -1) (h2 : ¬ rl b = -1) (h : rl a = rl b) (hr1 : rngI (nI i) (nI n) (rn a) = nI 1) (hr2 : rngI (nI j) (nI n) (rn b) = nI 1) (hi : i + n ≤ 40) (hj : j + n ≤ 40) : Ct G yX5_copy cX5_copy 8 (some .int) 3 0 0 z σ [.ref 0, .int (nI a), .int (nI i), .int (nI b), .int (nI j), .int (nI n)] (some (.int (nI n))) z (ups (rw' σ (2 + 2 * b) (va_cpy (ri a) (ri b) i j n) (rl b) (rn b)) 0 (xO lf (nI 0))) := by
  refine Ct.ofJ RX5 rfl [some (.ref 0), some (.int (nI a)), some (.int (nI i)), some (.int (nI b)), some (.int (nI j)), some (.int (nI n)), none, none] rfl (by decide) (by simp [Value.category]) ?_
  refine j_iload_n dX5_copy_0 rfl rfl ?_
  refine j_callS (c_isNoRow (nI a)) dX5_copy_1 rfl ms_X5_55 ⟨(Nat.le_of_ble_eq_true rfl), (Nat.le_of_ble_eq_true rfl)⟩ ⟨(Nat.le_of_ble_eq_true rfl), (Nat.le_of_ble_eq_true rfl)⟩ (Nat.le_of_ble_eq_true rfl) ?_
  refine j_top (nI 0) (nrI_k ha) ?_
  refine j_if_ne 14 dX5_copy_4 (by decide) (fun h => absurd rfl h) (fun _ => ?_)
  refine j_iload_n dX5_copy_7 rfl rfl ?_
  refine j_callS (c_isNoRow (nI b)) dX5_copy_8 rfl ms_X5_55 ⟨(Nat.le_of_ble_eq_true rfl), (Nat.le_of_ble_eq_true rfl)⟩ ⟨(Nat.le_of_ble_eq_true rfl), (Nat.le_of_ble_eq_true rfl)⟩ (Nat.le_of_ble_eq_true rfl) ?_
  refine j_top (nI 0) (nrI_k hb) ?_
  refine j_if_eq 17 dX5_copy_11 (by decide) (fun _ => ?_) (fun h => absurd rfl h)
  refine j_aload_n dX5_copy_17 rfl rfl ?_
  refine j_getf dX5_copy_18 5 0 rfl (Nat.le_of_ble_eq_true rfl) fl_X5_11 in_5 (by first | exact X.1 | exact X.2.1 | exact X.2.2.2.1 | exact X.2.2.2.2.1 | exact X.2.2.2.2.2.2.1.o | exact X.2.2.2.2.2.2.1.c | exact X.2.2.2.2.2.2.1.i | exact X.2.2.2.2.2.2.1.p | exact X.2.2.2.2.2.2.1.d | exact X.2.2.2.2.2.2.2.1.o | exact X.2.2.2.2.2.2.2.2.1 | exact X.2.2.2.2.2.2.2.2.2.1 | exact X.2.2.2.2.2.2.2.2.2.2.2.1 | exact X.2.2.2.2.2.2.2.2.2.2.2.2.2.1 | exact X.2.2.2.2.2.2.2.2.2.2.2.2.2.2.1 | exact X.2.2.2.2.2.2.2.2.2.2.2.2.2.2.2) rfl ?_
  refine j_iload_n dX5_copy_21 rfl rfl ?_
  refine j_aaldL 3 8 2 2 dX5_copy_22 (by first | exact X.1 | exact X.2.1 | exact X.2.2.2.1 | exact X.2.2.2.2.1 | exact X.2.2.2.2.2.2.1.o | exact X.2.2.2.2.2.2.1.c | exact X.2.2.2.2.2.2.1.i | exact X.2.2.2.2.2.2.1.p | exact X.2.2.2.2.2.2.1.d | exact X.2.2.2.2.2.2.2.1.o | exact X.2.2.2.2.2.2.2.2.1 | exact X.2.2.2.2.2.2.2.2.2.1 | exact X.2.2.2.2.2.2.2.2.2.2.2.1 | exact X.2.2.2.2.2.2.2.2.2.2.2.2.2.1 | exact X.2.2.2.2.2.2.2.2.2.2.2.2.2.2.1 | exact X.2.2.2.2.2.2.2.2.2.2.2.2.2.2.2) (by decide) rfl ha (by decide) ?_
  refine j_astore dX5_copy_23 (Nat.le_of_ble_eq_true rfl) rfl ?_
  refine j_aload_n dX5_copy_25 rfl rfl ?_
  refine j_getf dX5_copy_26 5 0 rfl (Nat.le_of_ble_eq_true rfl) fl_X5_11 in_5 (by first | exact X.1 | exact X.2.1 | exact X.2.2.2.1 | exact X.2.2.2.2.1 | exact X.2.2.2.2.2.2.1.o | exact X.2.2.2.2.2.2.1.c | exact X.2.2.2.2.2.2.1.i | exact X.2.2.2.2.2.2.1.p | exact X.2.2.2.2.2.2.1.d | exact X.2.2.2.2.2.2.2.1.o | exact X.2.2.2.2.2.2.2.2.1 | exact X.2.2.2.2.2.2.2.2.2.1 | exact X.2.2.2.2.2.2.2.2.2.2.2.1 | exact X.2.2.2.2.2.2.2.2.2.2.2.2.2.1 | exact X.2.2.2.2.2.2.2.2.2.2.2.2.2.2.1 | exact X.2.2.2.2.2.2.2.2.2.2.2.2.2.2.2) rfl ?_
  refine j_iload_n dX5_copy_29 rfl rfl ?_
  refine j_aaldL 3 8 2 2 dX5_copy_30 (by first | exact X.1 | exact X.2.1 | exact X.2.2.2.1 | exact X.2.2.2.2.1 | exact X.2.2.2.2.2.2.1.o | exact X.2.2.2.2.2.2.1.c | exact X.2.2.2.2.2.2.1.i | exact X.2.2.2.2.2.2.1.p | exact X.2.2.2.2.2.2.1.d | exact X.2.2.2.2.2.2.2.1.o | exact X.2.2.2.2.2.2.2.2.1 | exact X.2.2.2.2.2.2.2.2.2.1 | exact X.2.2.2.2.2.2.2.2.2.2.2.1 | exact X.2.2.2.2.2.2.2.2.2.2.2.2.2.1 | exact X.2.2.2.2.2.2.2.2.2.2.2.2.2.2.1 | exact X.2.2.2.2.2.2.2.2.2.2.2.2.2.2.2) (by decide) rfl hb (by decide) ?_
  refine j_astore dX5_copy_31 (Nat.le_of_ble_eq_true rfl) rfl ?_
  refine j_aload dX5_copy_33 rfl ?_
  refine j_callV (c_isMissingR (X.2.2.1 a ha)) dX5_copy_35 rfl mv_X5_71 (X.2.2.1 a ha).o rfl ⟨(Nat.le_of_ble_eq_true rfl), (Nat.le_of_ble_eq_true rfl)⟩ ⟨(Nat.le_of_ble_eq_true rfl), (Nat.le_of_ble_eq_true rfl)⟩ (Nat.le_of_ble_eq_true rfl) ?_
  refine j_top (nI 0) (if_neg h1) ?_
  refine j_if_ne 49 dX5_copy_38 (by decide) (fun h => absurd rfl h) (fun _ => ?_)
  refine j_aload dX5_copy_41 rfl ?_
  refine j_callV (c_isMissingR (X.2.2.1 b hb)) dX5_copy_43 rfl mv_X5_71 (X.2.2.1 b hb).o rfl ⟨(Nat.le_of_ble_eq_true rfl), (Nat.le_of_ble_eq_true rfl)⟩ ⟨(Nat.le_of_ble_eq_true rfl), (Nat.le_of_ble_eq_true rfl)⟩ (Nat.le_of_ble_eq_true rfl) ?_
  refine j_top (nI 0) (if_neg h2) ?_
  refine j_if_eq 55 dX5_copy_46 (by decide) (fun _ => ?_) (fun h => absurd rfl h)
  refine j_aload dX5_copy_55 rfl ?_
  refine j_getf dX5_copy_57 3 1 rfl (Nat.le_of_ble_eq_true rfl) fl_X5_83 in_3 (X.2.2.1 a ha).o rfl ?_
  refine j_aload dX5_copy_60 rfl ?_
  refine j_getf dX5_copy_62 3 1 rfl (Nat.le_of_ble_eq_true rfl) fl_X5_83 in_3 (X.2.2.1 b hb).o rfl ?_
  refine j_icmp_eq 74 dX5_copy_65 (by decide) (fun b65 => ?_) (fun b65 => ?_)
  · refine j_aload dX5_copy_74 rfl ?_
    refine j_iload_n dX5_copy_76 rfl rfl ?_
    refine j_iload dX5_copy_77 rfl ?_
    refine j_callV (c_hasRangeR (X.2.2.1 a ha) (nI i) (nI n)) dX5_copy_79 rfl mv_X5_75 (X.2.2.1 a ha).o rfl ⟨(Nat.le_of_ble_eq_true rfl), (Nat.le_of_ble_eq_true rfl)⟩ ⟨(Nat.le_of_ble_eq_true rfl), (Nat.le_of_ble_eq_true rfl)⟩ (Nat.le_of_ble_eq_true rfl) ?_
    refine j_top (nI 1) hr1 ?_
    refine j_if_eq 97 dX5_copy_82 (by decide) (fun h => absurd h (by decide)) (fun _ => ?_)
    refine j_aload dX5_copy_85 rfl ?_
    refine j_iload dX5_copy_87 rfl ?_
    refine j_iload dX5_copy_89 rfl ?_
    refine j_callV (c_hasRangeR (X.2.2.1 b hb) (nI j) (nI n)) dX5_copy_91 rfl mv_X5_75 (X.2.2.1 b hb).o rfl ⟨(Nat.le_of_ble_eq_true rfl), (Nat.le_of_ble_eq_true rfl)⟩ ⟨(Nat.le_of_ble_eq_true rfl), (Nat.le_of_ble_eq_true rfl)⟩ (Nat.le_of_ble_eq_true rfl) ?_
    refine j_top (nI 1) hr2 ?_
    refine j_if_ne 103 dX5_copy_94 (by decide) (fun _ => ?_) (fun h => absurd h (by decide))
    refine j_aload dX5_copy_103 rfl ?_
    refine j_getf dX5_copy_105 3 0 rfl (Nat.le_of_ble_eq_true rfl) fl_X5_87 in_3 (X.2.2.1 a ha).o rfl ?_
    refine j_iload_n dX5_copy_108 rfl rfl ?_
    refine j_aload dX5_copy_109 rfl ?_
    refine j_getf dX5_copy_111 3 0 rfl (Nat.le_of_ble_eq_true rfl) fl_X5_87 in_3 (X.2.2.1 b hb).o rfl ?_
    refine j_iload dX5_copy_114 rfl ?_
    refine j_iload dX5_copy_116 rfl ?_
    refine j_copy dX5_copy_118 ac_X5_90 (X.2.2.1 a ha).i (X.2.2.1 b hb).i hi hj (by decide) (by decide) (Nat.le_of_ble_eq_true rfl) (Nat.le_of_ble_eq_true rfl) (rw' σ (2 + 2 * b) (va_cpy (ri a) (ri b) i j n) (rl b) (rn b)) (by have h9 := rws_i (σ := σ) (a := 2 + 2 * b) (it := ri b) (la := rl b) (le := rn b) (it2 := va_cpy (ri a) (ri b) i j n); rw [show rw' σ (2 + 2 * b) (ri b) (rl b) (rn b) = σ from X.2.2.1 b hb] at h9; exact h9) ?_
    have X := X.row b hb (va_cpy (ri a) (ri b) i j n) (rl b) (rn b)
    refine j_aload_n dX5_copy_121 rfl rfl ?_
    refine j_iload dX5_copy_122 rfl ?_
    refine j_callV (c_foundNothing X _) dX5_copy_124 rfl mv_X5_68 (by first | exact X.1 | exact X.2.1 | exact X.2.2.2.1 | exact X.2.2.2.2.1 | exact X.2.2.2.2.2.2.1.o | exact X.2.2.2.2.2.2.1.c | exact X.2.2.2.2.2.2.1.i | exact X.2.2.2.2.2.2.1.p | exact X.2.2.2.2.2.2.1.d | exact X.2.2.2.2.2.2.2.1.o | exact X.2.2.2.2.2.2.2.2.1 | exact X.2.2.2.2.2.2.2.2.2.1 | exact X.2.2.2.2.2.2.2.2.2.2.2.1 | exact X.2.2.2.2.2.2.2.2.2.2.2.2.2.1 | exact X.2.2.2.2.2.2.2.2.2.2.2.2.2.2.1 | exact X.2.2.2.2.2.2.2.2.2.2.2.2.2.2.2) rfl ⟨(Nat.le_of_ble_eq_true rfl), (Nat.le_of_ble_eq_true rfl)⟩ ⟨(Nat.le_of_ble_eq_true rfl), (Nat.le_of_ble_eq_true rfl)⟩ (Nat.le_of_ble_eq_true rfl) ?_
    exact j_iret rfl dX5_copy_127 rfl rfl (Nat.le_of_ble_eq_true rfl) (Nat.le_of_ble_eq_true rfl)
  · exact absurd h b65
theorem x_fault (X : XR σ lf fd rl rn ri tp rd dd d df nx kp da di tr bo ne) : Ct G yX5_fault cX5_fault 1 (some .int) 1 0 0 z σ [.ref 0] (some (.int lf)) z σ := by
  refine Ct.ofJ RX5 rfl [some (.ref 0)] rfl (by decide) Nat.le.refl ?_
  refine j_aload_n dX5_fault_0 rfl rfl ?_
  refine j_getf dX5_fault_1 5 2 rfl (Nat.le_of_ble_eq_true rfl) fl_X5_114 in_5 (by first | exact X.1 | exact X.2.1 | exact X.2.2.2.1 | exact X.2.2.2.2.1 | exact X.2.2.2.2.2.2.1.o | exact X.2.2.2.2.2.2.1.c | exact X.2.2.2.2.2.2.1.i | exact X.2.2.2.2.2.2.1.p | exact X.2.2.2.2.2.2.1.d | exact X.2.2.2.2.2.2.2.1.o | exact X.2.2.2.2.2.2.2.2.1 | exact X.2.2.2.2.2.2.2.2.2.1 | exact X.2.2.2.2.2.2.2.2.2.2.2.1 | exact X.2.2.2.2.2.2.2.2.2.2.2.2.2.1 | exact X.2.2.2.2.2.2.2.2.2.2.2.2.2.2.1 | exact X.2.2.2.2.2.2.2.2.2.2.2.2.2.2.2) rfl ?_
  exact j_iret rfl dX5_fault_4 rfl rfl (Nat.le_of_ble_eq_true rfl) (Nat.le_of_ble_eq_true rfl)
theorem x_status (X : XR σ lf fd rl rn ri tp rd dd d df nx kp da di tr bo ne) : Ct G yX5_status cX5_status 1 (some .int) 1 0 0 z σ [.ref 0] (some (.int fd)) z σ := by
  refine Ct.ofJ RX5 rfl [some (.ref 0)] rfl (by decide) Nat.le.refl ?_
  refine j_aload_n dX5_status_0 rfl rfl ?_
  refine j_getf dX5_status_1 5 3 rfl (Nat.le_of_ble_eq_true rfl) fl_X5_255 in_5 (by first | exact X.1 | exact X.2.1 | exact X.2.2.2.1 | exact X.2.2.2.2.1 | exact X.2.2.2.2.2.2.1.o | exact X.2.2.2.2.2.2.1.c | exact X.2.2.2.2.2.2.1.i | exact X.2.2.2.2.2.2.1.p | exact X.2.2.2.2.2.2.1.d | exact X.2.2.2.2.2.2.2.1.o | exact X.2.2.2.2.2.2.2.2.1 | exact X.2.2.2.2.2.2.2.2.2.1 | exact X.2.2.2.2.2.2.2.2.2.2.2.1 | exact X.2.2.2.2.2.2.2.2.2.2.2.2.2.1 | exact X.2.2.2.2.2.2.2.2.2.2.2.2.2.2.1 | exact X.2.2.2.2.2.2.2.2.2.2.2.2.2.2.2) rfl ?_
  exact j_iret rfl dX5_status_4 rfl rfl (Nat.le_of_ble_eq_true rfl) (Nat.le_of_ble_eq_true rfl)
theorem x_loan_bad (X : XR σ lf fd rl rn ri tp rd dd d df nx kp da di tr bo ne) (a b n : Int32) (h : ¬ nqI a b (sN d) = 0 ∨ n < nI 1 ∨ nI 999 < n) : Ct G yX5_loan cX5_loan 5 (some .int) 4 0 0 z σ [.ref 0, .int a, .int b, .int n] (some (.int (-1000001))) z σ := by
  refine Ct.ofJ RX5 rfl [some (.ref 0), some (.int a), some (.int b), some (.int n), none] rfl (by decide) (by simp [Value.category]) ?_
  refine j_aload_n dX5_loan_0 rfl rfl ?_
  refine j_iload_n dX5_loan_1 rfl rfl ?_
  refine j_iload_n dX5_loan_2 rfl rfl ?_
  refine j_callV (c_isNoPair X a b) dX5_loan_3 rfl mv_X5_134 (by first | exact X.1 | exact X.2.1 | exact X.2.2.2.1 | exact X.2.2.2.2.1 | exact X.2.2.2.2.2.2.1.o | exact X.2.2.2.2.2.2.1.c | exact X.2.2.2.2.2.2.1.i | exact X.2.2.2.2.2.2.1.p | exact X.2.2.2.2.2.2.1.d | exact X.2.2.2.2.2.2.2.1.o | exact X.2.2.2.2.2.2.2.2.1 | exact X.2.2.2.2.2.2.2.2.2.1 | exact X.2.2.2.2.2.2.2.2.2.2.2.1 | exact X.2.2.2.2.2.2.2.2.2.2.2.2.2.1 | exact X.2.2.2.2.2.2.2.2.2.2.2.2.2.2.1 | exact X.2.2.2.2.2.2.2.2.2.2.2.2.2.2.2) rfl ⟨(Nat.le_of_ble_eq_true rfl), (Nat.le_of_ble_eq_true rfl)⟩ ⟨(Nat.le_of_ble_eq_true rfl), (Nat.le_of_ble_eq_true rfl)⟩ (Nat.le_of_ble_eq_true rfl) ?_
  refine j_if_ne 21 dX5_loan_6 (by decide) (fun b6 => ?_) (fun b6 => ?_)
  · refine j_ldc (-1000001) dX5_loan_21 kc_X5_59 ?_
    exact j_iret rfl dX5_loan_23 rfl rfl (Nat.le_of_ble_eq_true rfl) (Nat.le_of_ble_eq_true rfl)
  · refine j_iload_n dX5_loan_9 rfl rfl ?_
    refine j_iconst (nI 1) dX5_loan_10 rfl ?_
    refine j_icmp_lt 21 dX5_loan_11 (by decide) (fun b11 => ?_) (fun b11 => ?_)
    · refine j_ldc (-1000001) dX5_loan_21 kc_X5_59 ?_
      exact j_iret rfl dX5_loan_23 rfl rfl (Nat.le_of_ble_eq_true rfl) (Nat.le_of_ble_eq_true rfl)
    · refine j_iload_n dX5_loan_14 rfl rfl ?_
      refine j_sipush (nI 999) dX5_loan_15 rfl ?_
      refine j_icmp_le 24 dX5_loan_18 (by decide) (fun b18 => ?_) (fun b18 => ?_)
      · exfalso
        rcases h with h | h | h
        · exact h b6
        · exact b11 h
        · exact absurd b18 (Int32.not_le.mpr h)
      · refine j_ldc (-1000001) dX5_loan_21 kc_X5_59 ?_
        exact j_iret rfl dX5_loan_23 rfl rfl (Nat.le_of_ble_eq_true rfl) (Nat.le_of_ble_eq_true rfl)
theorem x_loan_state (X : XR σ lf fd rl rn ri tp rd dd d df nx kp da di tr bo ne) {p q : Nat} (hN : sN d ≤ 7) (hp : p < sN d) (hq : q < sN d) (hpq : p ≠ q) (n : Int32) (h1 : ¬ n < nI 1) (h2 : n ≤ nI 999) (h : sC d q < n) : Ct G yX5_loan cX5_loan 5 (some .int) 4 0 0 z σ [.ref 0, .int (nI p), .int (nI q), .int n] (some (.int (-1000002))) z σ := by
  refine Ct.ofJ RX5 rfl [some (.ref 0), some (.int (nI p)), some (.int (nI q)), some (.int n), none] rfl (by decide) (by simp [Value.category]) ?_
  refine j_aload_n dX5_loan_0 rfl rfl ?_
  refine j_iload_n dX5_loan_1 rfl rfl ?_
  refine j_iload_n dX5_loan_2 rfl rfl ?_
  refine j_callV (c_isNoPair X (nI p) (nI q)) dX5_loan_3 rfl mv_X5_134 (by first | exact X.1 | exact X.2.1 | exact X.2.2.2.1 | exact X.2.2.2.2.1 | exact X.2.2.2.2.2.2.1.o | exact X.2.2.2.2.2.2.1.c | exact X.2.2.2.2.2.2.1.i | exact X.2.2.2.2.2.2.1.p | exact X.2.2.2.2.2.2.1.d | exact X.2.2.2.2.2.2.2.1.o | exact X.2.2.2.2.2.2.2.2.1 | exact X.2.2.2.2.2.2.2.2.2.1 | exact X.2.2.2.2.2.2.2.2.2.2.2.1 | exact X.2.2.2.2.2.2.2.2.2.2.2.2.2.1 | exact X.2.2.2.2.2.2.2.2.2.2.2.2.2.2.1 | exact X.2.2.2.2.2.2.2.2.2.2.2.2.2.2.2) rfl ⟨(Nat.le_of_ble_eq_true rfl), (Nat.le_of_ble_eq_true rfl)⟩ ⟨(Nat.le_of_ble_eq_true rfl), (Nat.le_of_ble_eq_true rfl)⟩ (Nat.le_of_ble_eq_true rfl) ?_
  refine j_top (nI 0) (nqI_k hp hq hpq hN) ?_
  refine j_if_ne 21 dX5_loan_6 (by decide) (fun h => absurd rfl h) (fun _ => ?_)
  refine j_iload_n dX5_loan_9 rfl rfl ?_
  refine j_iconst (nI 1) dX5_loan_10 rfl ?_
  refine j_icmp_lt 21 dX5_loan_11 (by decide) (fun b11 => ?_) (fun b11 => ?_)
  · exact absurd b11 h1
  · refine j_iload_n dX5_loan_14 rfl rfl ?_
    refine j_sipush (nI 999) dX5_loan_15 rfl ?_
    refine j_icmp_le 24 dX5_loan_18 (by decide) (fun b18 => ?_) (fun b18 => ?_)
    · refine j_aload_n dX5_loan_24 rfl rfl ?_
      refine j_getf dX5_loan_25 5 4 rfl (Nat.le_of_ble_eq_true rfl) fl_X5_26 in_5 (by first | exact X.1 | exact X.2.1 | exact X.2.2.2.1 | exact X.2.2.2.2.1 | exact X.2.2.2.2.2.2.1.o | exact X.2.2.2.2.2.2.1.c | exact X.2.2.2.2.2.2.1.i | exact X.2.2.2.2.2.2.1.p | exact X.2.2.2.2.2.2.1.d | exact X.2.2.2.2.2.2.2.1.o | exact X.2.2.2.2.2.2.2.2.1 | exact X.2.2.2.2.2.2.2.2.2.1 | exact X.2.2.2.2.2.2.2.2.2.2.2.1 | exact X.2.2.2.2.2.2.2.2.2.2.2.2.2.1 | exact X.2.2.2.2.2.2.2.2.2.2.2.2.2.2.1 | exact X.2.2.2.2.2.2.2.2.2.2.2.2.2.2.2) rfl ?_
      refine j_getf dX5_loan_28 4 0 rfl (Nat.le_of_ble_eq_true rfl) fl_X5_137 in_4 (by first | exact X.1 | exact X.2.1 | exact X.2.2.2.1 | exact X.2.2.2.2.1 | exact X.2.2.2.2.2.2.1.o | exact X.2.2.2.2.2.2.1.c | exact X.2.2.2.2.2.2.1.i | exact X.2.2.2.2.2.2.1.p | exact X.2.2.2.2.2.2.1.d | exact X.2.2.2.2.2.2.2.1.o | exact X.2.2.2.2.2.2.2.2.1 | exact X.2.2.2.2.2.2.2.2.2.1 | exact X.2.2.2.2.2.2.2.2.2.2.2.1 | exact X.2.2.2.2.2.2.2.2.2.2.2.2.2.1 | exact X.2.2.2.2.2.2.2.2.2.2.2.2.2.2.1 | exact X.2.2.2.2.2.2.2.2.2.2.2.2.2.2.2) rfl ?_
      refine j_iload_n dX5_loan_31 rfl rfl ?_
      refine j_iald dX5_loan_32 (by first | exact X.1 | exact X.2.1 | exact X.2.2.2.1 | exact X.2.2.2.2.1 | exact X.2.2.2.2.2.2.1.o | exact X.2.2.2.2.2.2.1.c | exact X.2.2.2.2.2.2.1.i | exact X.2.2.2.2.2.2.1.p | exact X.2.2.2.2.2.2.1.d | exact X.2.2.2.2.2.2.2.1.o | exact X.2.2.2.2.2.2.2.2.1 | exact X.2.2.2.2.2.2.2.2.2.1 | exact X.2.2.2.2.2.2.2.2.2.2.2.1 | exact X.2.2.2.2.2.2.2.2.2.2.2.2.2.1 | exact X.2.2.2.2.2.2.2.2.2.2.2.2.2.2.1 | exact X.2.2.2.2.2.2.2.2.2.2.2.2.2.2.2) rfl (by omega) (by decide) ?_
      refine j_iload_n dX5_loan_33 rfl rfl ?_
      refine j_icmp_ge 40 dX5_loan_34 (by decide) (fun b34 => ?_) (fun b34 => ?_)
      · exact absurd h (Int32.not_lt.mpr b34)
      · refine j_ldc (-1000002) dX5_loan_37 kc_X5_140 ?_
        exact j_iret rfl dX5_loan_39 rfl rfl (Nat.le_of_ble_eq_true rfl) (Nat.le_of_ble_eq_true rfl)
    · exact absurd h2 b18
theorem x_loan_full (X : XR σ lf fd rl rn ri tp rd dd d df nx kp da di tr bo ne) {p q : Nat} (hN : sN d ≤ 7) (hp : p < sN d) (hq : q < sN d) (hpq : p ≠ q) (n : Int32) (h1 : ¬ n < nI 1) (h2 : n ≤ nI 999) (h3 : ¬ sC d q < n) (h : ¬ sD d (p * 7 + q) + n ≤ 99999) : Ct G yX5_loan cX5_loan 5 (some .int) 4 0 0 z σ [.ref 0, .int (nI p), .int (nI q), .int n] (some (.int (-1000003))) z σ := by
  refine Ct.ofJ RX5 rfl [some (.ref 0), some (.int (nI p)), some (.int (nI q)), some (.int n), none] rfl (by decide) (by simp [Value.category]) ?_
  refine j_aload_n dX5_loan_0 rfl rfl ?_
  refine j_iload_n dX5_loan_1 rfl rfl ?_
  refine j_iload_n dX5_loan_2 rfl rfl ?_
  refine j_callV (c_isNoPair X (nI p) (nI q)) dX5_loan_3 rfl mv_X5_134 (by first | exact X.1 | exact X.2.1 | exact X.2.2.2.1 | exact X.2.2.2.2.1 | exact X.2.2.2.2.2.2.1.o | exact X.2.2.2.2.2.2.1.c | exact X.2.2.2.2.2.2.1.i | exact X.2.2.2.2.2.2.1.p | exact X.2.2.2.2.2.2.1.d | exact X.2.2.2.2.2.2.2.1.o | exact X.2.2.2.2.2.2.2.2.1 | exact X.2.2.2.2.2.2.2.2.2.1 | exact X.2.2.2.2.2.2.2.2.2.2.2.1 | exact X.2.2.2.2.2.2.2.2.2.2.2.2.2.1 | exact X.2.2.2.2.2.2.2.2.2.2.2.2.2.2.1 | exact X.2.2.2.2.2.2.2.2.2.2.2.2.2.2.2) rfl ⟨(Nat.le_of_ble_eq_true rfl), (Nat.le_of_ble_eq_true rfl)⟩ ⟨(Nat.le_of_ble_eq_true rfl), (Nat.le_of_ble_eq_true rfl)⟩ (Nat.le_of_ble_eq_true rfl) ?_
  refine j_top (nI 0) (nqI_k hp hq hpq hN) ?_
  refine j_if_ne 21 dX5_loan_6 (by decide) (fun h => absurd rfl h) (fun _ => ?_)
  refine j_iload_n dX5_loan_9 rfl rfl ?_
  refine j_iconst (nI 1) dX5_loan_10 rfl ?_
  refine j_icmp_lt 21 dX5_loan_11 (by decide) (fun b11 => ?_) (fun b11 => ?_)
  · exact absurd b11 h1
  · refine j_iload_n dX5_loan_14 rfl rfl ?_
    refine j_sipush (nI 999) dX5_loan_15 rfl ?_
    refine j_icmp_le 24 dX5_loan_18 (by decide) (fun b18 => ?_) (fun b18 => ?_)
    · refine j_aload_n dX5_loan_24 rfl rfl ?_
      refine j_getf dX5_loan_25 5 4 rfl (Nat.le_of_ble_eq_true rfl) fl_X5_26 in_5 (by first | exact X.1 | exact X.2.1 | exact X.2.2.2.1 | exact X.2.2.2.2.1 | exact X.2.2.2.2.2.2.1.o | exact X.2.2.2.2.2.2.1.c | exact X.2.2.2.2.2.2.1.i | exact X.2.2.2.2.2.2.1.p | exact X.2.2.2.2.2.2.1.d | exact X.2.2.2.2.2.2.2.1.o | exact X.2.2.2.2.2.2.2.2.1 | exact X.2.2.2.2.2.2.2.2.2.1 | exact X.2.2.2.2.2.2.2.2.2.2.2.1 | exact X.2.2.2.2.2.2.2.2.2.2.2.2.2.1 | exact X.2.2.2.2.2.2.2.2.2.2.2.2.2.2.1 | exact X.2.2.2.2.2.2.2.2.2.2.2.2.2.2.2) rfl ?_
      refine j_getf dX5_loan_28 4 0 rfl (Nat.le_of_ble_eq_true rfl) fl_X5_137 in_4 (by first | exact X.1 | exact X.2.1 | exact X.2.2.2.1 | exact X.2.2.2.2.1 | exact X.2.2.2.2.2.2.1.o | exact X.2.2.2.2.2.2.1.c | exact X.2.2.2.2.2.2.1.i | exact X.2.2.2.2.2.2.1.p | exact X.2.2.2.2.2.2.1.d | exact X.2.2.2.2.2.2.2.1.o | exact X.2.2.2.2.2.2.2.2.1 | exact X.2.2.2.2.2.2.2.2.2.1 | exact X.2.2.2.2.2.2.2.2.2.2.2.1 | exact X.2.2.2.2.2.2.2.2.2.2.2.2.2.1 | exact X.2.2.2.2.2.2.2.2.2.2.2.2.2.2.1 | exact X.2.2.2.2.2.2.2.2.2.2.2.2.2.2.2) rfl ?_
      refine j_iload_n dX5_loan_31 rfl rfl ?_
      refine j_iald dX5_loan_32 (by first | exact X.1 | exact X.2.1 | exact X.2.2.2.1 | exact X.2.2.2.2.1 | exact X.2.2.2.2.2.2.1.o | exact X.2.2.2.2.2.2.1.c | exact X.2.2.2.2.2.2.1.i | exact X.2.2.2.2.2.2.1.p | exact X.2.2.2.2.2.2.1.d | exact X.2.2.2.2.2.2.2.1.o | exact X.2.2.2.2.2.2.2.2.1 | exact X.2.2.2.2.2.2.2.2.2.1 | exact X.2.2.2.2.2.2.2.2.2.2.2.1 | exact X.2.2.2.2.2.2.2.2.2.2.2.2.2.1 | exact X.2.2.2.2.2.2.2.2.2.2.2.2.2.2.1 | exact X.2.2.2.2.2.2.2.2.2.2.2.2.2.2.2) rfl (by omega) (by decide) ?_
      refine j_iload_n dX5_loan_33 rfl rfl ?_
      refine j_icmp_ge 40 dX5_loan_34 (by decide) (fun b34 => ?_) (fun b34 => ?_)
      · refine j_aload_n dX5_loan_40 rfl rfl ?_
        refine j_getf dX5_loan_41 5 4 rfl (Nat.le_of_ble_eq_true rfl) fl_X5_26 in_5 (by first | exact X.1 | exact X.2.1 | exact X.2.2.2.1 | exact X.2.2.2.2.1 | exact X.2.2.2.2.2.2.1.o | exact X.2.2.2.2.2.2.1.c | exact X.2.2.2.2.2.2.1.i | exact X.2.2.2.2.2.2.1.p | exact X.2.2.2.2.2.2.1.d | exact X.2.2.2.2.2.2.2.1.o | exact X.2.2.2.2.2.2.2.2.1 | exact X.2.2.2.2.2.2.2.2.2.1 | exact X.2.2.2.2.2.2.2.2.2.2.2.1 | exact X.2.2.2.2.2.2.2.2.2.2.2.2.2.1 | exact X.2.2.2.2.2.2.2.2.2.2.2.2.2.2.1 | exact X.2.2.2.2.2.2.2.2.2.2.2.2.2.2.2) rfl ?_
        refine j_iload_n dX5_loan_44 rfl rfl ?_
        refine j_iload_n dX5_loan_45 rfl rfl ?_
        refine j_callV (c_debtOfS X.2.2.2.2.2.2.1 (by omega)) dX5_loan_46 rfl mv_X5_141 (by first | exact X.1 | exact X.2.1 | exact X.2.2.2.1 | exact X.2.2.2.2.1 | exact X.2.2.2.2.2.2.1.o | exact X.2.2.2.2.2.2.1.c | exact X.2.2.2.2.2.2.1.i | exact X.2.2.2.2.2.2.1.p | exact X.2.2.2.2.2.2.1.d | exact X.2.2.2.2.2.2.2.1.o | exact X.2.2.2.2.2.2.2.2.1 | exact X.2.2.2.2.2.2.2.2.2.1 | exact X.2.2.2.2.2.2.2.2.2.2.2.1 | exact X.2.2.2.2.2.2.2.2.2.2.2.2.2.1 | exact X.2.2.2.2.2.2.2.2.2.2.2.2.2.2.1 | exact X.2.2.2.2.2.2.2.2.2.2.2.2.2.2.2) rfl ⟨(Nat.le_of_ble_eq_true rfl), (Nat.le_of_ble_eq_true rfl)⟩ ⟨(Nat.le_of_ble_eq_true rfl), (Nat.le_of_ble_eq_true rfl)⟩ (Nat.le_of_ble_eq_true rfl) ?_
        refine j_iload_n dX5_loan_49 rfl rfl ?_
        refine j_iadd dX5_loan_50 ?_
        refine j_istore dX5_loan_51 (Nat.le_of_ble_eq_true rfl) rfl ?_
        refine j_iload dX5_loan_53 rfl ?_
        refine j_ldc (99999) dX5_loan_55 kc_X5_144 ?_
        refine j_icmp_le 63 dX5_loan_57 (by decide) (fun b57 => ?_) (fun b57 => ?_)
        · exact absurd b57 h
        · refine j_ldc (-1000003) dX5_loan_60 kc_X5_103 ?_
          exact j_iret rfl dX5_loan_62 rfl rfl (Nat.le_of_ble_eq_true rfl) (Nat.le_of_ble_eq_true rfl)
      · exact absurd (Int32.not_lt.mp h3) b34
    · exact absurd h2 b18
theorem x_loan_ok (X : XR σ lf fd rl rn ri tp rd dd d df nx kp da di tr bo ne) {p q : Nat} (hN : sN d ≤ 7) (hp : p < sN d) (hq : q < sN d) (hpq : p ≠ q) (hn : nx < 24) (hkp : kp ≤ 24) (n : Int32) (h1 : ¬ n < nI 1) (h2 : n ≤ nI 999) (h3 : ¬ sC d q < n) (h : sD d (p * 7 + q) + n ≤ 99999) : Ct G yX5_loan cX5_loan 5 (some .int) 4 0 0 z σ [.ref 0, .int (nI p), .int (nI q), .int n] (some (.int (sD d (p * 7 + q) + n))) z (twS (kpH σ nx kp d) 25 (pbC (sC d) q p n, sI d, sP d, upd (sD d) (p * 7 + q) (sD d (p * 7 + q) + n), sN d, sU d, sR d, sQ d, sH d, sF d)) := by
  refine Ct.ofJ RX5 rfl [some (.ref 0), some (.int (nI p)), some (.int (nI q)), some (.int n), none] rfl (by decide) (by simp [Value.category]) ?_
  refine j_aload_n dX5_loan_0 rfl rfl ?_
  refine j_iload_n dX5_loan_1 rfl rfl ?_
  refine j_iload_n dX5_loan_2 rfl rfl ?_
  refine j_callV (c_isNoPair X (nI p) (nI q)) dX5_loan_3 rfl mv_X5_134 (by first | exact X.1 | exact X.2.1 | exact X.2.2.2.1 | exact X.2.2.2.2.1 | exact X.2.2.2.2.2.2.1.o | exact X.2.2.2.2.2.2.1.c | exact X.2.2.2.2.2.2.1.i | exact X.2.2.2.2.2.2.1.p | exact X.2.2.2.2.2.2.1.d | exact X.2.2.2.2.2.2.2.1.o | exact X.2.2.2.2.2.2.2.2.1 | exact X.2.2.2.2.2.2.2.2.2.1 | exact X.2.2.2.2.2.2.2.2.2.2.2.1 | exact X.2.2.2.2.2.2.2.2.2.2.2.2.2.1 | exact X.2.2.2.2.2.2.2.2.2.2.2.2.2.2.1 | exact X.2.2.2.2.2.2.2.2.2.2.2.2.2.2.2) rfl ⟨(Nat.le_of_ble_eq_true rfl), (Nat.le_of_ble_eq_true rfl)⟩ ⟨(Nat.le_of_ble_eq_true rfl), (Nat.le_of_ble_eq_true rfl)⟩ (Nat.le_of_ble_eq_true rfl) ?_
  refine j_top (nI 0) (nqI_k hp hq hpq hN) ?_
  refine j_if_ne 21 dX5_loan_6 (by decide) (fun h => absurd rfl h) (fun _ => ?_)
  refine j_iload_n dX5_loan_9 rfl rfl ?_
  refine j_iconst (nI 1) dX5_loan_10 rfl ?_
  refine j_icmp_lt 21 dX5_loan_11 (by decide) (fun b11 => ?_) (fun b11 => ?_)
  · exact absurd b11 h1
  · refine j_iload_n dX5_loan_14 rfl rfl ?_
    refine j_sipush (nI 999) dX5_loan_15 rfl ?_
    refine j_icmp_le 24 dX5_loan_18 (by decide) (fun b18 => ?_) (fun b18 => ?_)
    · refine j_aload_n dX5_loan_24 rfl rfl ?_
      refine j_getf dX5_loan_25 5 4 rfl (Nat.le_of_ble_eq_true rfl) fl_X5_26 in_5 (by first | exact X.1 | exact X.2.1 | exact X.2.2.2.1 | exact X.2.2.2.2.1 | exact X.2.2.2.2.2.2.1.o | exact X.2.2.2.2.2.2.1.c | exact X.2.2.2.2.2.2.1.i | exact X.2.2.2.2.2.2.1.p | exact X.2.2.2.2.2.2.1.d | exact X.2.2.2.2.2.2.2.1.o | exact X.2.2.2.2.2.2.2.2.1 | exact X.2.2.2.2.2.2.2.2.2.1 | exact X.2.2.2.2.2.2.2.2.2.2.2.1 | exact X.2.2.2.2.2.2.2.2.2.2.2.2.2.1 | exact X.2.2.2.2.2.2.2.2.2.2.2.2.2.2.1 | exact X.2.2.2.2.2.2.2.2.2.2.2.2.2.2.2) rfl ?_
      refine j_getf dX5_loan_28 4 0 rfl (Nat.le_of_ble_eq_true rfl) fl_X5_137 in_4 (by first | exact X.1 | exact X.2.1 | exact X.2.2.2.1 | exact X.2.2.2.2.1 | exact X.2.2.2.2.2.2.1.o | exact X.2.2.2.2.2.2.1.c | exact X.2.2.2.2.2.2.1.i | exact X.2.2.2.2.2.2.1.p | exact X.2.2.2.2.2.2.1.d | exact X.2.2.2.2.2.2.2.1.o | exact X.2.2.2.2.2.2.2.2.1 | exact X.2.2.2.2.2.2.2.2.2.1 | exact X.2.2.2.2.2.2.2.2.2.2.2.1 | exact X.2.2.2.2.2.2.2.2.2.2.2.2.2.1 | exact X.2.2.2.2.2.2.2.2.2.2.2.2.2.2.1 | exact X.2.2.2.2.2.2.2.2.2.2.2.2.2.2.2) rfl ?_
      refine j_iload_n dX5_loan_31 rfl rfl ?_
      refine j_iald dX5_loan_32 (by first | exact X.1 | exact X.2.1 | exact X.2.2.2.1 | exact X.2.2.2.2.1 | exact X.2.2.2.2.2.2.1.o | exact X.2.2.2.2.2.2.1.c | exact X.2.2.2.2.2.2.1.i | exact X.2.2.2.2.2.2.1.p | exact X.2.2.2.2.2.2.1.d | exact X.2.2.2.2.2.2.2.1.o | exact X.2.2.2.2.2.2.2.2.1 | exact X.2.2.2.2.2.2.2.2.2.1 | exact X.2.2.2.2.2.2.2.2.2.2.2.1 | exact X.2.2.2.2.2.2.2.2.2.2.2.2.2.1 | exact X.2.2.2.2.2.2.2.2.2.2.2.2.2.2.1 | exact X.2.2.2.2.2.2.2.2.2.2.2.2.2.2.2) rfl (by omega) (by decide) ?_
      refine j_iload_n dX5_loan_33 rfl rfl ?_
      refine j_icmp_ge 40 dX5_loan_34 (by decide) (fun b34 => ?_) (fun b34 => ?_)
      · refine j_aload_n dX5_loan_40 rfl rfl ?_
        refine j_getf dX5_loan_41 5 4 rfl (Nat.le_of_ble_eq_true rfl) fl_X5_26 in_5 (by first | exact X.1 | exact X.2.1 | exact X.2.2.2.1 | exact X.2.2.2.2.1 | exact X.2.2.2.2.2.2.1.o | exact X.2.2.2.2.2.2.1.c | exact X.2.2.2.2.2.2.1.i | exact X.2.2.2.2.2.2.1.p | exact X.2.2.2.2.2.2.1.d | exact X.2.2.2.2.2.2.2.1.o | exact X.2.2.2.2.2.2.2.2.1 | exact X.2.2.2.2.2.2.2.2.2.1 | exact X.2.2.2.2.2.2.2.2.2.2.2.1 | exact X.2.2.2.2.2.2.2.2.2.2.2.2.2.1 | exact X.2.2.2.2.2.2.2.2.2.2.2.2.2.2.1 | exact X.2.2.2.2.2.2.2.2.2.2.2.2.2.2.2) rfl ?_
        refine j_iload_n dX5_loan_44 rfl rfl ?_
        refine j_iload_n dX5_loan_45 rfl rfl ?_
        refine j_callV (c_debtOfS X.2.2.2.2.2.2.1 (by omega)) dX5_loan_46 rfl mv_X5_141 (by first | exact X.1 | exact X.2.1 | exact X.2.2.2.1 | exact X.2.2.2.2.1 | exact X.2.2.2.2.2.2.1.o | exact X.2.2.2.2.2.2.1.c | exact X.2.2.2.2.2.2.1.i | exact X.2.2.2.2.2.2.1.p | exact X.2.2.2.2.2.2.1.d | exact X.2.2.2.2.2.2.2.1.o | exact X.2.2.2.2.2.2.2.2.1 | exact X.2.2.2.2.2.2.2.2.2.1 | exact X.2.2.2.2.2.2.2.2.2.2.2.1 | exact X.2.2.2.2.2.2.2.2.2.2.2.2.2.1 | exact X.2.2.2.2.2.2.2.2.2.2.2.2.2.2.1 | exact X.2.2.2.2.2.2.2.2.2.2.2.2.2.2.2) rfl ⟨(Nat.le_of_ble_eq_true rfl), (Nat.le_of_ble_eq_true rfl)⟩ ⟨(Nat.le_of_ble_eq_true rfl), (Nat.le_of_ble_eq_true rfl)⟩ (Nat.le_of_ble_eq_true rfl) ?_
        refine j_iload_n dX5_loan_49 rfl rfl ?_
        refine j_iadd dX5_loan_50 ?_
        refine j_istore dX5_loan_51 (Nat.le_of_ble_eq_true rfl) rfl ?_
        refine j_iload dX5_loan_53 rfl ?_
        refine j_ldc (99999) dX5_loan_55 kc_X5_144 ?_
        refine j_icmp_le 63 dX5_loan_57 (by decide) (fun b57 => ?_) (fun b57 => ?_)
        · refine j_aload_n dX5_loan_63 rfl rfl ?_
          refine j_getf dX5_loan_64 5 6 rfl (Nat.le_of_ble_eq_true rfl) fl_X5_36 in_5 (by first | exact X.1 | exact X.2.1 | exact X.2.2.2.1 | exact X.2.2.2.2.1 | exact X.2.2.2.2.2.2.1.o | exact X.2.2.2.2.2.2.1.c | exact X.2.2.2.2.2.2.1.i | exact X.2.2.2.2.2.2.1.p | exact X.2.2.2.2.2.2.1.d | exact X.2.2.2.2.2.2.2.1.o | exact X.2.2.2.2.2.2.2.2.1 | exact X.2.2.2.2.2.2.2.2.2.1 | exact X.2.2.2.2.2.2.2.2.2.2.2.1 | exact X.2.2.2.2.2.2.2.2.2.2.2.2.2.1 | exact X.2.2.2.2.2.2.2.2.2.2.2.2.2.2.1 | exact X.2.2.2.2.2.2.2.2.2.2.2.2.2.2.2) rfl ?_
          refine j_aload_n dX5_loan_67 rfl rfl ?_
          refine j_getf dX5_loan_68 5 4 rfl (Nat.le_of_ble_eq_true rfl) fl_X5_26 in_5 (by first | exact X.1 | exact X.2.1 | exact X.2.2.2.1 | exact X.2.2.2.2.1 | exact X.2.2.2.2.2.2.1.o | exact X.2.2.2.2.2.2.1.c | exact X.2.2.2.2.2.2.1.i | exact X.2.2.2.2.2.2.1.p | exact X.2.2.2.2.2.2.1.d | exact X.2.2.2.2.2.2.2.1.o | exact X.2.2.2.2.2.2.2.2.1 | exact X.2.2.2.2.2.2.2.2.2.1 | exact X.2.2.2.2.2.2.2.2.2.2.2.1 | exact X.2.2.2.2.2.2.2.2.2.2.2.2.2.1 | exact X.2.2.2.2.2.2.2.2.2.2.2.2.2.2.1 | exact X.2.2.2.2.2.2.2.2.2.2.2.2.2.2.2) rfl ?_
          refine j_callV (c_keep X hn hkp) dX5_loan_71 rfl mv_X5_145 (by first | exact X.1 | exact X.2.1 | exact X.2.2.2.1 | exact X.2.2.2.2.1 | exact X.2.2.2.2.2.2.1.o | exact X.2.2.2.2.2.2.1.c | exact X.2.2.2.2.2.2.1.i | exact X.2.2.2.2.2.2.1.p | exact X.2.2.2.2.2.2.1.d | exact X.2.2.2.2.2.2.2.1.o | exact X.2.2.2.2.2.2.2.2.1 | exact X.2.2.2.2.2.2.2.2.2.1 | exact X.2.2.2.2.2.2.2.2.2.2.2.1 | exact X.2.2.2.2.2.2.2.2.2.2.2.2.2.1 | exact X.2.2.2.2.2.2.2.2.2.2.2.2.2.2.1 | exact X.2.2.2.2.2.2.2.2.2.2.2.2.2.2.2) rfl ⟨(Nat.le_of_ble_eq_true rfl), (Nat.le_of_ble_eq_true rfl)⟩ ⟨(Nat.le_of_ble_eq_true rfl), (Nat.le_of_ble_eq_true rfl)⟩ (Nat.le_of_ble_eq_true rfl) ?_
          have X := (X.act nx hn d).acts (nxt nx) (min (kp + 1) 24)
          refine j_aload_n dX5_loan_74 rfl rfl ?_
          refine j_getf dX5_loan_75 5 4 rfl (Nat.le_of_ble_eq_true rfl) fl_X5_26 in_5 (by first | exact X.1 | exact X.2.1 | exact X.2.2.2.1 | exact X.2.2.2.2.1 | exact X.2.2.2.2.2.2.1.o | exact X.2.2.2.2.2.2.1.c | exact X.2.2.2.2.2.2.1.i | exact X.2.2.2.2.2.2.1.p | exact X.2.2.2.2.2.2.1.d | exact X.2.2.2.2.2.2.2.1.o | exact X.2.2.2.2.2.2.2.2.1 | exact X.2.2.2.2.2.2.2.2.2.1 | exact X.2.2.2.2.2.2.2.2.2.2.2.1 | exact X.2.2.2.2.2.2.2.2.2.2.2.2.2.1 | exact X.2.2.2.2.2.2.2.2.2.2.2.2.2.2.1 | exact X.2.2.2.2.2.2.2.2.2.2.2.2.2.2.2) rfl ?_
          refine j_iload_n dX5_loan_78 rfl rfl ?_
          refine j_iload_n dX5_loan_79 rfl rfl ?_
          refine j_iload_n dX5_loan_80 rfl rfl ?_
          refine j_callV (c_lendsS X.2.2.2.2.2.2.1 n (by omega) (by omega)) dX5_loan_81 rfl mv_X5_148 (by first | exact X.1 | exact X.2.1 | exact X.2.2.2.1 | exact X.2.2.2.2.1 | exact X.2.2.2.2.2.2.1.o | exact X.2.2.2.2.2.2.1.c | exact X.2.2.2.2.2.2.1.i | exact X.2.2.2.2.2.2.1.p | exact X.2.2.2.2.2.2.1.d | exact X.2.2.2.2.2.2.2.1.o | exact X.2.2.2.2.2.2.2.2.1 | exact X.2.2.2.2.2.2.2.2.2.1 | exact X.2.2.2.2.2.2.2.2.2.2.2.1 | exact X.2.2.2.2.2.2.2.2.2.2.2.2.2.1 | exact X.2.2.2.2.2.2.2.2.2.2.2.2.2.2.1 | exact X.2.2.2.2.2.2.2.2.2.2.2.2.2.2.2) rfl ⟨(Nat.le_of_ble_eq_true rfl), (Nat.le_of_ble_eq_true rfl)⟩ ⟨(Nat.le_of_ble_eq_true rfl), (Nat.le_of_ble_eq_true rfl)⟩ (Nat.le_of_ble_eq_true rfl) ?_
          refine j_iload dX5_loan_84 rfl ?_
          exact j_iret rfl dX5_loan_86 rfl rfl (Nat.le_of_ble_eq_true rfl) (Nat.le_of_ble_eq_true rfl)
        · exact absurd h b57
      · exact absurd (Int32.not_lt.mp h3) b34
    · exact absurd h2 b18
theorem x_pay_bad (X : XR σ lf fd rl rn ri tp rd dd d df nx kp da di tr bo ne) (a b n : Int32) (h : ¬ nqI a b (sN d) = 0 ∨ n < nI 1 ∨ 99999 < n) : Ct G yX5_pay cX5_pay 4 (some .int) 4 0 0 z σ [.ref 0, .int a, .int b, .int n] (some (.int (-1000001))) z σ := by
  refine Ct.ofJ RX5 rfl [some (.ref 0), some (.int a), some (.int b), some (.int n)] rfl (by decide) Nat.le.refl ?_
  refine j_aload_n dX5_pay_0 rfl rfl ?_
  refine j_iload_n dX5_pay_1 rfl rfl ?_
  refine j_iload_n dX5_pay_2 rfl rfl ?_
  refine j_callV (c_isNoPair X a b) dX5_pay_3 rfl mv_X5_134 (by first | exact X.1 | exact X.2.1 | exact X.2.2.2.1 | exact X.2.2.2.2.1 | exact X.2.2.2.2.2.2.1.o | exact X.2.2.2.2.2.2.1.c | exact X.2.2.2.2.2.2.1.i | exact X.2.2.2.2.2.2.1.p | exact X.2.2.2.2.2.2.1.d | exact X.2.2.2.2.2.2.2.1.o | exact X.2.2.2.2.2.2.2.2.1 | exact X.2.2.2.2.2.2.2.2.2.1 | exact X.2.2.2.2.2.2.2.2.2.2.2.1 | exact X.2.2.2.2.2.2.2.2.2.2.2.2.2.1 | exact X.2.2.2.2.2.2.2.2.2.2.2.2.2.2.1 | exact X.2.2.2.2.2.2.2.2.2.2.2.2.2.2.2) rfl ⟨(Nat.le_of_ble_eq_true rfl), (Nat.le_of_ble_eq_true rfl)⟩ ⟨(Nat.le_of_ble_eq_true rfl), (Nat.le_of_ble_eq_true rfl)⟩ (Nat.le_of_ble_eq_true rfl) ?_
  refine j_if_ne 20 dX5_pay_6 (by decide) (fun b6 => ?_) (fun b6 => ?_)
  · refine j_ldc (-1000001) dX5_pay_20 kc_X5_59 ?_
    exact j_iret rfl dX5_pay_22 rfl rfl (Nat.le_of_ble_eq_true rfl) (Nat.le_of_ble_eq_true rfl)
  · refine j_iload_n dX5_pay_9 rfl rfl ?_
    refine j_iconst (nI 1) dX5_pay_10 rfl ?_
    refine j_icmp_lt 20 dX5_pay_11 (by decide) (fun b11 => ?_) (fun b11 => ?_)
    · refine j_ldc (-1000001) dX5_pay_20 kc_X5_59 ?_
      exact j_iret rfl dX5_pay_22 rfl rfl (Nat.le_of_ble_eq_true rfl) (Nat.le_of_ble_eq_true rfl)
    · refine j_iload_n dX5_pay_14 rfl rfl ?_
      refine j_ldc (99999) dX5_pay_15 kc_X5_144 ?_
      refine j_icmp_le 23 dX5_pay_17 (by decide) (fun b17 => ?_) (fun b17 => ?_)
      · exfalso
        rcases h with h | h | h
        · exact h b6
        · exact b11 h
        · exact absurd b17 (Int32.not_le.mpr h)
      · refine j_ldc (-1000001) dX5_pay_20 kc_X5_59 ?_
        exact j_iret rfl dX5_pay_22 rfl rfl (Nat.le_of_ble_eq_true rfl) (Nat.le_of_ble_eq_true rfl)
theorem x_pay_state (X : XR σ lf fd rl rn ri tp rd dd d df nx kp da di tr bo ne) {p q : Nat} (hN : sN d ≤ 7) (hp : p < sN d) (hq : q < sN d) (hpq : p ≠ q) (n : Int32) (h1 : ¬ n < nI 1) (h2 : n ≤ 99999) (h : sD d (p * 7 + q) < n ∨ sC d p < n) : Ct G yX5_pay cX5_pay 4 (some .int) 4 0 0 z σ [.ref 0, .int (nI p), .int (nI q), .int n] (some (.int (-1000002))) z σ := by
  refine Ct.ofJ RX5 rfl [some (.ref 0), some (.int (nI p)), some (.int (nI q)), some (.int n)] rfl (by decide) Nat.le.refl ?_
  refine j_aload_n dX5_pay_0 rfl rfl ?_
  refine j_iload_n dX5_pay_1 rfl rfl ?_
  refine j_iload_n dX5_pay_2 rfl rfl ?_
  refine j_callV (c_isNoPair X (nI p) (nI q)) dX5_pay_3 rfl mv_X5_134 (by first | exact X.1 | exact X.2.1 | exact X.2.2.2.1 | exact X.2.2.2.2.1 | exact X.2.2.2.2.2.2.1.o | exact X.2.2.2.2.2.2.1.c | exact X.2.2.2.2.2.2.1.i | exact X.2.2.2.2.2.2.1.p | exact X.2.2.2.2.2.2.1.d | exact X.2.2.2.2.2.2.2.1.o | exact X.2.2.2.2.2.2.2.2.1 | exact X.2.2.2.2.2.2.2.2.2.1 | exact X.2.2.2.2.2.2.2.2.2.2.2.1 | exact X.2.2.2.2.2.2.2.2.2.2.2.2.2.1 | exact X.2.2.2.2.2.2.2.2.2.2.2.2.2.2.1 | exact X.2.2.2.2.2.2.2.2.2.2.2.2.2.2.2) rfl ⟨(Nat.le_of_ble_eq_true rfl), (Nat.le_of_ble_eq_true rfl)⟩ ⟨(Nat.le_of_ble_eq_true rfl), (Nat.le_of_ble_eq_true rfl)⟩ (Nat.le_of_ble_eq_true rfl) ?_
  refine j_top (nI 0) (nqI_k hp hq hpq hN) ?_
  refine j_if_ne 20 dX5_pay_6 (by decide) (fun h => absurd rfl h) (fun _ => ?_)
  refine j_iload_n dX5_pay_9 rfl rfl ?_
  refine j_iconst (nI 1) dX5_pay_10 rfl ?_
  refine j_icmp_lt 20 dX5_pay_11 (by decide) (fun b11 => ?_) (fun b11 => ?_)
  · exact absurd b11 h1
  · refine j_iload_n dX5_pay_14 rfl rfl ?_
    refine j_ldc (99999) dX5_pay_15 kc_X5_144 ?_
    refine j_icmp_le 23 dX5_pay_17 (by decide) (fun b17 => ?_) (fun b17 => ?_)
    · refine j_aload_n dX5_pay_23 rfl rfl ?_
      refine j_getf dX5_pay_24 5 4 rfl (Nat.le_of_ble_eq_true rfl) fl_X5_26 in_5 (by first | exact X.1 | exact X.2.1 | exact X.2.2.2.1 | exact X.2.2.2.2.1 | exact X.2.2.2.2.2.2.1.o | exact X.2.2.2.2.2.2.1.c | exact X.2.2.2.2.2.2.1.i | exact X.2.2.2.2.2.2.1.p | exact X.2.2.2.2.2.2.1.d | exact X.2.2.2.2.2.2.2.1.o | exact X.2.2.2.2.2.2.2.2.1 | exact X.2.2.2.2.2.2.2.2.2.1 | exact X.2.2.2.2.2.2.2.2.2.2.2.1 | exact X.2.2.2.2.2.2.2.2.2.2.2.2.2.1 | exact X.2.2.2.2.2.2.2.2.2.2.2.2.2.2.1 | exact X.2.2.2.2.2.2.2.2.2.2.2.2.2.2.2) rfl ?_
      refine j_iload_n dX5_pay_27 rfl rfl ?_
      refine j_iload_n dX5_pay_28 rfl rfl ?_
      refine j_callV (c_debtOfS X.2.2.2.2.2.2.1 (by omega)) dX5_pay_29 rfl mv_X5_141 (by first | exact X.1 | exact X.2.1 | exact X.2.2.2.1 | exact X.2.2.2.2.1 | exact X.2.2.2.2.2.2.1.o | exact X.2.2.2.2.2.2.1.c | exact X.2.2.2.2.2.2.1.i | exact X.2.2.2.2.2.2.1.p | exact X.2.2.2.2.2.2.1.d | exact X.2.2.2.2.2.2.2.1.o | exact X.2.2.2.2.2.2.2.2.1 | exact X.2.2.2.2.2.2.2.2.2.1 | exact X.2.2.2.2.2.2.2.2.2.2.2.1 | exact X.2.2.2.2.2.2.2.2.2.2.2.2.2.1 | exact X.2.2.2.2.2.2.2.2.2.2.2.2.2.2.1 | exact X.2.2.2.2.2.2.2.2.2.2.2.2.2.2.2) rfl ⟨(Nat.le_of_ble_eq_true rfl), (Nat.le_of_ble_eq_true rfl)⟩ ⟨(Nat.le_of_ble_eq_true rfl), (Nat.le_of_ble_eq_true rfl)⟩ (Nat.le_of_ble_eq_true rfl) ?_
      refine j_iload_n dX5_pay_32 rfl rfl ?_
      refine j_icmp_lt 49 dX5_pay_33 (by decide) (fun b33 => ?_) (fun b33 => ?_)
      · refine j_ldc (-1000002) dX5_pay_49 kc_X5_140 ?_
        exact j_iret rfl dX5_pay_51 rfl rfl (Nat.le_of_ble_eq_true rfl) (Nat.le_of_ble_eq_true rfl)
      · refine j_aload_n dX5_pay_36 rfl rfl ?_
        refine j_getf dX5_pay_37 5 4 rfl (Nat.le_of_ble_eq_true rfl) fl_X5_26 in_5 (by first | exact X.1 | exact X.2.1 | exact X.2.2.2.1 | exact X.2.2.2.2.1 | exact X.2.2.2.2.2.2.1.o | exact X.2.2.2.2.2.2.1.c | exact X.2.2.2.2.2.2.1.i | exact X.2.2.2.2.2.2.1.p | exact X.2.2.2.2.2.2.1.d | exact X.2.2.2.2.2.2.2.1.o | exact X.2.2.2.2.2.2.2.2.1 | exact X.2.2.2.2.2.2.2.2.2.1 | exact X.2.2.2.2.2.2.2.2.2.2.2.1 | exact X.2.2.2.2.2.2.2.2.2.2.2.2.2.1 | exact X.2.2.2.2.2.2.2.2.2.2.2.2.2.2.1 | exact X.2.2.2.2.2.2.2.2.2.2.2.2.2.2.2) rfl ?_
        refine j_getf dX5_pay_40 4 0 rfl (Nat.le_of_ble_eq_true rfl) fl_X5_137 in_4 (by first | exact X.1 | exact X.2.1 | exact X.2.2.2.1 | exact X.2.2.2.2.1 | exact X.2.2.2.2.2.2.1.o | exact X.2.2.2.2.2.2.1.c | exact X.2.2.2.2.2.2.1.i | exact X.2.2.2.2.2.2.1.p | exact X.2.2.2.2.2.2.1.d | exact X.2.2.2.2.2.2.2.1.o | exact X.2.2.2.2.2.2.2.2.1 | exact X.2.2.2.2.2.2.2.2.2.1 | exact X.2.2.2.2.2.2.2.2.2.2.2.1 | exact X.2.2.2.2.2.2.2.2.2.2.2.2.2.1 | exact X.2.2.2.2.2.2.2.2.2.2.2.2.2.2.1 | exact X.2.2.2.2.2.2.2.2.2.2.2.2.2.2.2) rfl ?_
        refine j_iload_n dX5_pay_43 rfl rfl ?_
        refine j_iald dX5_pay_44 (by first | exact X.1 | exact X.2.1 | exact X.2.2.2.1 | exact X.2.2.2.2.1 | exact X.2.2.2.2.2.2.1.o | exact X.2.2.2.2.2.2.1.c | exact X.2.2.2.2.2.2.1.i | exact X.2.2.2.2.2.2.1.p | exact X.2.2.2.2.2.2.1.d | exact X.2.2.2.2.2.2.2.1.o | exact X.2.2.2.2.2.2.2.2.1 | exact X.2.2.2.2.2.2.2.2.2.1 | exact X.2.2.2.2.2.2.2.2.2.2.2.1 | exact X.2.2.2.2.2.2.2.2.2.2.2.2.2.1 | exact X.2.2.2.2.2.2.2.2.2.2.2.2.2.2.1 | exact X.2.2.2.2.2.2.2.2.2.2.2.2.2.2.2) rfl (by omega) (by decide) ?_
        refine j_iload_n dX5_pay_45 rfl rfl ?_
        refine j_icmp_ge 52 dX5_pay_46 (by decide) (fun b46 => ?_) (fun b46 => ?_)
        · exfalso
          rcases h with h | h
          · exact b33 h
          · exact absurd h (Int32.not_lt.mpr b46)
        · refine j_ldc (-1000002) dX5_pay_49 kc_X5_140 ?_
          exact j_iret rfl dX5_pay_51 rfl rfl (Nat.le_of_ble_eq_true rfl) (Nat.le_of_ble_eq_true rfl)
    · exact absurd h2 b17
theorem x_pay_ok (X : XR σ lf fd rl rn ri tp rd dd d df nx kp da di tr bo ne) {p q : Nat} (hN : sN d ≤ 7) (hp : p < sN d) (hq : q < sN d) (hpq : p ≠ q) (hn : nx < 24) (hkp : kp ≤ 24) (n : Int32) (h1 : ¬ n < nI 1) (h2 : n ≤ 99999) (h3 : ¬ sD d (p * 7 + q) < n) (h4 : ¬ sC d p < n) : Ct G yX5_pay cX5_pay 4 (some .int) 4 0 0 z σ [.ref 0, .int (nI p), .int (nI q), .int n] (some (.int (sD d (p * 7 + q) + -n))) z (twS (kpH σ nx kp d) 25 (pbC (sC d) p q n, sI d, sP d, upd (sD d) (p * 7 + q) (sD d (p * 7 + q) + -n), sN d, sU d, sR d, sQ d, sH d, sF d)) := by
  refine Ct.ofJ RX5 rfl [some (.ref 0), some (.int (nI p)), some (.int (nI q)), some (.int n)] rfl (by decide) Nat.le.refl ?_
  refine j_aload_n dX5_pay_0 rfl rfl ?_
  refine j_iload_n dX5_pay_1 rfl rfl ?_
  refine j_iload_n dX5_pay_2 rfl rfl ?_
  refine j_callV (c_isNoPair X (nI p) (nI q)) dX5_pay_3 rfl mv_X5_134 (by first | exact X.1 | exact X.2.1 | exact X.2.2.2.1 | exact X.2.2.2.2.1 | exact X.2.2.2.2.2.2.1.o | exact X.2.2.2.2.2.2.1.c | exact X.2.2.2.2.2.2.1.i | exact X.2.2.2.2.2.2.1.p | exact X.2.2.2.2.2.2.1.d | exact X.2.2.2.2.2.2.2.1.o | exact X.2.2.2.2.2.2.2.2.1 | exact X.2.2.2.2.2.2.2.2.2.1 | exact X.2.2.2.2.2.2.2.2.2.2.2.1 | exact X.2.2.2.2.2.2.2.2.2.2.2.2.2.1 | exact X.2.2.2.2.2.2.2.2.2.2.2.2.2.2.1 | exact X.2.2.2.2.2.2.2.2.2.2.2.2.2.2.2) rfl ⟨(Nat.le_of_ble_eq_true rfl), (Nat.le_of_ble_eq_true rfl)⟩ ⟨(Nat.le_of_ble_eq_true rfl), (Nat.le_of_ble_eq_true rfl)⟩ (Nat.le_of_ble_eq_true rfl) ?_
  refine j_top (nI 0) (nqI_k hp hq hpq hN) ?_
  refine j_if_ne 20 dX5_pay_6 (by decide) (fun h => absurd rfl h) (fun _ => ?_)
  refine j_iload_n dX5_pay_9 rfl rfl ?_
  refine j_iconst (nI 1) dX5_pay_10 rfl ?_
  refine j_icmp_lt 20 dX5_pay_11 (by decide) (fun b11 => ?_) (fun b11 => ?_)
  · exact absurd b11 h1
  · refine j_iload_n dX5_pay_14 rfl rfl ?_
    refine j_ldc (99999) dX5_pay_15 kc_X5_144 ?_
    refine j_icmp_le 23 dX5_pay_17 (by decide) (fun b17 => ?_) (fun b17 => ?_)
    · refine j_aload_n dX5_pay_23 rfl rfl ?_
      refine j_getf dX5_pay_24 5 4 rfl (Nat.le_of_ble_eq_true rfl) fl_X5_26 in_5 (by first | exact X.1 | exact X.2.1 | exact X.2.2.2.1 | exact X.2.2.2.2.1 | exact X.2.2.2.2.2.2.1.o | exact X.2.2.2.2.2.2.1.c | exact X.2.2.2.2.2.2.1.i | exact X.2.2.2.2.2.2.1.p | exact X.2.2.2.2.2.2.1.d | exact X.2.2.2.2.2.2.2.1.o | exact X.2.2.2.2.2.2.2.2.1 | exact X.2.2.2.2.2.2.2.2.2.1 | exact X.2.2.2.2.2.2.2.2.2.2.2.1 | exact X.2.2.2.2.2.2.2.2.2.2.2.2.2.1 | exact X.2.2.2.2.2.2.2.2.2.2.2.2.2.2.1 | exact X.2.2.2.2.2.2.2.2.2.2.2.2.2.2.2) rfl ?_
      refine j_iload_n dX5_pay_27 rfl rfl ?_
      refine j_iload_n dX5_pay_28 rfl rfl ?_
      refine j_callV (c_debtOfS X.2.2.2.2.2.2.1 (by omega)) dX5_pay_29 rfl mv_X5_141 (by first | exact X.1 | exact X.2.1 | exact X.2.2.2.1 | exact X.2.2.2.2.1 | exact X.2.2.2.2.2.2.1.o | exact X.2.2.2.2.2.2.1.c | exact X.2.2.2.2.2.2.1.i | exact X.2.2.2.2.2.2.1.p | exact X.2.2.2.2.2.2.1.d | exact X.2.2.2.2.2.2.2.1.o | exact X.2.2.2.2.2.2.2.2.1 | exact X.2.2.2.2.2.2.2.2.2.1 | exact X.2.2.2.2.2.2.2.2.2.2.2.1 | exact X.2.2.2.2.2.2.2.2.2.2.2.2.2.1 | exact X.2.2.2.2.2.2.2.2.2.2.2.2.2.2.1 | exact X.2.2.2.2.2.2.2.2.2.2.2.2.2.2.2) rfl ⟨(Nat.le_of_ble_eq_true rfl), (Nat.le_of_ble_eq_true rfl)⟩ ⟨(Nat.le_of_ble_eq_true rfl), (Nat.le_of_ble_eq_true rfl)⟩ (Nat.le_of_ble_eq_true rfl) ?_
      refine j_iload_n dX5_pay_32 rfl rfl ?_
      refine j_icmp_lt 49 dX5_pay_33 (by decide) (fun b33 => ?_) (fun b33 => ?_)
      · exact absurd b33 h3
      · refine j_aload_n dX5_pay_36 rfl rfl ?_
        refine j_getf dX5_pay_37 5 4 rfl (Nat.le_of_ble_eq_true rfl) fl_X5_26 in_5 (by first | exact X.1 | exact X.2.1 | exact X.2.2.2.1 | exact X.2.2.2.2.1 | exact X.2.2.2.2.2.2.1.o | exact X.2.2.2.2.2.2.1.c | exact X.2.2.2.2.2.2.1.i | exact X.2.2.2.2.2.2.1.p | exact X.2.2.2.2.2.2.1.d | exact X.2.2.2.2.2.2.2.1.o | exact X.2.2.2.2.2.2.2.2.1 | exact X.2.2.2.2.2.2.2.2.2.1 | exact X.2.2.2.2.2.2.2.2.2.2.2.1 | exact X.2.2.2.2.2.2.2.2.2.2.2.2.2.1 | exact X.2.2.2.2.2.2.2.2.2.2.2.2.2.2.1 | exact X.2.2.2.2.2.2.2.2.2.2.2.2.2.2.2) rfl ?_
        refine j_getf dX5_pay_40 4 0 rfl (Nat.le_of_ble_eq_true rfl) fl_X5_137 in_4 (by first | exact X.1 | exact X.2.1 | exact X.2.2.2.1 | exact X.2.2.2.2.1 | exact X.2.2.2.2.2.2.1.o | exact X.2.2.2.2.2.2.1.c | exact X.2.2.2.2.2.2.1.i | exact X.2.2.2.2.2.2.1.p | exact X.2.2.2.2.2.2.1.d | exact X.2.2.2.2.2.2.2.1.o | exact X.2.2.2.2.2.2.2.2.1 | exact X.2.2.2.2.2.2.2.2.2.1 | exact X.2.2.2.2.2.2.2.2.2.2.2.1 | exact X.2.2.2.2.2.2.2.2.2.2.2.2.2.1 | exact X.2.2.2.2.2.2.2.2.2.2.2.2.2.2.1 | exact X.2.2.2.2.2.2.2.2.2.2.2.2.2.2.2) rfl ?_
        refine j_iload_n dX5_pay_43 rfl rfl ?_
        refine j_iald dX5_pay_44 (by first | exact X.1 | exact X.2.1 | exact X.2.2.2.1 | exact X.2.2.2.2.1 | exact X.2.2.2.2.2.2.1.o | exact X.2.2.2.2.2.2.1.c | exact X.2.2.2.2.2.2.1.i | exact X.2.2.2.2.2.2.1.p | exact X.2.2.2.2.2.2.1.d | exact X.2.2.2.2.2.2.2.1.o | exact X.2.2.2.2.2.2.2.2.1 | exact X.2.2.2.2.2.2.2.2.2.1 | exact X.2.2.2.2.2.2.2.2.2.2.2.1 | exact X.2.2.2.2.2.2.2.2.2.2.2.2.2.1 | exact X.2.2.2.2.2.2.2.2.2.2.2.2.2.2.1 | exact X.2.2.2.2.2.2.2.2.2.2.2.2.2.2.2) rfl (by omega) (by decide) ?_
        refine j_iload_n dX5_pay_45 rfl rfl ?_
        refine j_icmp_ge 52 dX5_pay_46 (by decide) (fun b46 => ?_) (fun b46 => ?_)
        · refine j_aload_n dX5_pay_52 rfl rfl ?_
          refine j_getf dX5_pay_53 5 6 rfl (Nat.le_of_ble_eq_true rfl) fl_X5_36 in_5 (by first | exact X.1 | exact X.2.1 | exact X.2.2.2.1 | exact X.2.2.2.2.1 | exact X.2.2.2.2.2.2.1.o | exact X.2.2.2.2.2.2.1.c | exact X.2.2.2.2.2.2.1.i | exact X.2.2.2.2.2.2.1.p | exact X.2.2.2.2.2.2.1.d | exact X.2.2.2.2.2.2.2.1.o | exact X.2.2.2.2.2.2.2.2.1 | exact X.2.2.2.2.2.2.2.2.2.1 | exact X.2.2.2.2.2.2.2.2.2.2.2.1 | exact X.2.2.2.2.2.2.2.2.2.2.2.2.2.1 | exact X.2.2.2.2.2.2.2.2.2.2.2.2.2.2.1 | exact X.2.2.2.2.2.2.2.2.2.2.2.2.2.2.2) rfl ?_
          refine j_aload_n dX5_pay_56 rfl rfl ?_
          refine j_getf dX5_pay_57 5 4 rfl (Nat.le_of_ble_eq_true rfl) fl_X5_26 in_5 (by first | exact X.1 | exact X.2.1 | exact X.2.2.2.1 | exact X.2.2.2.2.1 | exact X.2.2.2.2.2.2.1.o | exact X.2.2.2.2.2.2.1.c | exact X.2.2.2.2.2.2.1.i | exact X.2.2.2.2.2.2.1.p | exact X.2.2.2.2.2.2.1.d | exact X.2.2.2.2.2.2.2.1.o | exact X.2.2.2.2.2.2.2.2.1 | exact X.2.2.2.2.2.2.2.2.2.1 | exact X.2.2.2.2.2.2.2.2.2.2.2.1 | exact X.2.2.2.2.2.2.2.2.2.2.2.2.2.1 | exact X.2.2.2.2.2.2.2.2.2.2.2.2.2.2.1 | exact X.2.2.2.2.2.2.2.2.2.2.2.2.2.2.2) rfl ?_
          refine j_callV (c_keep X hn hkp) dX5_pay_60 rfl mv_X5_145 (by first | exact X.1 | exact X.2.1 | exact X.2.2.2.1 | exact X.2.2.2.2.1 | exact X.2.2.2.2.2.2.1.o | exact X.2.2.2.2.2.2.1.c | exact X.2.2.2.2.2.2.1.i | exact X.2.2.2.2.2.2.1.p | exact X.2.2.2.2.2.2.1.d | exact X.2.2.2.2.2.2.2.1.o | exact X.2.2.2.2.2.2.2.2.1 | exact X.2.2.2.2.2.2.2.2.2.1 | exact X.2.2.2.2.2.2.2.2.2.2.2.1 | exact X.2.2.2.2.2.2.2.2.2.2.2.2.2.1 | exact X.2.2.2.2.2.2.2.2.2.2.2.2.2.2.1 | exact X.2.2.2.2.2.2.2.2.2.2.2.2.2.2.2) rfl ⟨(Nat.le_of_ble_eq_true rfl), (Nat.le_of_ble_eq_true rfl)⟩ ⟨(Nat.le_of_ble_eq_true rfl), (Nat.le_of_ble_eq_true rfl)⟩ (Nat.le_of_ble_eq_true rfl) ?_
          have X := (X.act nx hn d).acts (nxt nx) (min (kp + 1) 24)
          refine j_aload_n dX5_pay_63 rfl rfl ?_
          refine j_getf dX5_pay_64 5 4 rfl (Nat.le_of_ble_eq_true rfl) fl_X5_26 in_5 (by first | exact X.1 | exact X.2.1 | exact X.2.2.2.1 | exact X.2.2.2.2.1 | exact X.2.2.2.2.2.2.1.o | exact X.2.2.2.2.2.2.1.c | exact X.2.2.2.2.2.2.1.i | exact X.2.2.2.2.2.2.1.p | exact X.2.2.2.2.2.2.1.d | exact X.2.2.2.2.2.2.2.1.o | exact X.2.2.2.2.2.2.2.2.1 | exact X.2.2.2.2.2.2.2.2.2.1 | exact X.2.2.2.2.2.2.2.2.2.2.2.1 | exact X.2.2.2.2.2.2.2.2.2.2.2.2.2.1 | exact X.2.2.2.2.2.2.2.2.2.2.2.2.2.2.1 | exact X.2.2.2.2.2.2.2.2.2.2.2.2.2.2.2) rfl ?_
          refine j_iload_n dX5_pay_67 rfl rfl ?_
          refine j_iload_n dX5_pay_68 rfl rfl ?_
          refine j_iload_n dX5_pay_69 rfl rfl ?_
          refine j_callV (c_paysBackS X.2.2.2.2.2.2.1 n (by omega) (by omega)) dX5_pay_70 rfl mv_X5_152 (by first | exact X.1 | exact X.2.1 | exact X.2.2.2.1 | exact X.2.2.2.2.1 | exact X.2.2.2.2.2.2.1.o | exact X.2.2.2.2.2.2.1.c | exact X.2.2.2.2.2.2.1.i | exact X.2.2.2.2.2.2.1.p | exact X.2.2.2.2.2.2.1.d | exact X.2.2.2.2.2.2.2.1.o | exact X.2.2.2.2.2.2.2.2.1 | exact X.2.2.2.2.2.2.2.2.2.1 | exact X.2.2.2.2.2.2.2.2.2.2.2.1 | exact X.2.2.2.2.2.2.2.2.2.2.2.2.2.1 | exact X.2.2.2.2.2.2.2.2.2.2.2.2.2.2.1 | exact X.2.2.2.2.2.2.2.2.2.2.2.2.2.2.2) rfl ⟨(Nat.le_of_ble_eq_true rfl), (Nat.le_of_ble_eq_true rfl)⟩ ⟨(Nat.le_of_ble_eq_true rfl), (Nat.le_of_ble_eq_true rfl)⟩ (Nat.le_of_ble_eq_true rfl) ?_
          have X := X.town (pbC (sC d) p q n, sI d, sP d, upd (sD d) (p * 7 + q) (sD d (p * 7 + q) + -n), sN d, sU d, sR d, sQ d, sH d, sF d)
          refine j_aload_n dX5_pay_73 rfl rfl ?_
          refine j_getf dX5_pay_74 5 4 rfl (Nat.le_of_ble_eq_true rfl) fl_X5_26 in_5 (by first | exact X.1 | exact X.2.1 | exact X.2.2.2.1 | exact X.2.2.2.2.1 | exact X.2.2.2.2.2.2.1.o | exact X.2.2.2.2.2.2.1.c | exact X.2.2.2.2.2.2.1.i | exact X.2.2.2.2.2.2.1.p | exact X.2.2.2.2.2.2.1.d | exact X.2.2.2.2.2.2.2.1.o | exact X.2.2.2.2.2.2.2.2.1 | exact X.2.2.2.2.2.2.2.2.2.1 | exact X.2.2.2.2.2.2.2.2.2.2.2.1 | exact X.2.2.2.2.2.2.2.2.2.2.2.2.2.1 | exact X.2.2.2.2.2.2.2.2.2.2.2.2.2.2.1 | exact X.2.2.2.2.2.2.2.2.2.2.2.2.2.2.2) rfl ?_
          refine j_iload_n dX5_pay_77 rfl rfl ?_
          refine j_iload_n dX5_pay_78 rfl rfl ?_
          refine j_callV (c_debtOfS X.2.2.2.2.2.2.1 (by omega)) dX5_pay_79 rfl mv_X5_141 (by first | exact X.1 | exact X.2.1 | exact X.2.2.2.1 | exact X.2.2.2.2.1 | exact X.2.2.2.2.2.2.1.o | exact X.2.2.2.2.2.2.1.c | exact X.2.2.2.2.2.2.1.i | exact X.2.2.2.2.2.2.1.p | exact X.2.2.2.2.2.2.1.d | exact X.2.2.2.2.2.2.2.1.o | exact X.2.2.2.2.2.2.2.2.1 | exact X.2.2.2.2.2.2.2.2.2.1 | exact X.2.2.2.2.2.2.2.2.2.2.2.1 | exact X.2.2.2.2.2.2.2.2.2.2.2.2.2.1 | exact X.2.2.2.2.2.2.2.2.2.2.2.2.2.2.1 | exact X.2.2.2.2.2.2.2.2.2.2.2.2.2.2.2) rfl ⟨(Nat.le_of_ble_eq_true rfl), (Nat.le_of_ble_eq_true rfl)⟩ ⟨(Nat.le_of_ble_eq_true rfl), (Nat.le_of_ble_eq_true rfl)⟩ (Nat.le_of_ble_eq_true rfl) ?_
          exact j_iret rfl dX5_pay_82 (by rw [show sD (pbC (sC d) p q n, sI d, sP d, upd (sD d) (p * 7 + q) (sD d (p * 7 + q) + -n), sN d, sU d, sR d, sQ d, sH d, sF d) (p * 7 + q) = sD d (p * 7 + q) + -n from pk_us]) rfl (Nat.le_of_ble_eq_true rfl) (Nat.le_of_ble_eq_true rfl)
        · exact absurd (Int32.not_lt.mp h4) b46
    · exact absurd h2 b17
end O2

/-! THE CLASS's call: town -/
/-- the tape is read: whether, the reader, the draft -/
noncomputable def rTown (tp : Nat → Int32) (len : Nat) (r : RS) (s : TS) : Bool × RS × TS :=
  if (rLaw tp len (nextT tp len (r.1, r.2.1, 0, r.2.2.2.1, r.2.2.2.2.1, r.2.2.2.2.2)) (sC s, sI s, sP s, fun _ => nI 0, 0, 1, 0, 0, nI 0, nI 0)).1 = true then
    if (rPpl tp len (rLaw tp len (nextT tp len (r.1, r.2.1, 0, r.2.2.2.1, r.2.2.2.2.1, r.2.2.2.2.2)) (sC s, sI s, sP s, fun _ => nI 0, 0, 1, 0, 0, nI 0, nI 0)).2.1 (rLaw tp len (nextT tp len (r.1, r.2.1, 0, r.2.2.2.1, r.2.2.2.2.1, r.2.2.2.2.2)) (sC s, sI s, sP s, fun _ => nI 0, 0, 1, 0, 0, nI 0, nI 0)).2.2).1 = true then
      if (rDbts tp len (rPpl tp len (rLaw tp len (nextT tp len (r.1, r.2.1, 0, r.2.2.2.1, r.2.2.2.2.1, r.2.2.2.2.2)) (sC s, sI s, sP s, fun _ => nI 0, 0, 1, 0, 0, nI 0, nI 0)).2.1 (rLaw tp len (nextT tp len (r.1, r.2.1, 0, r.2.2.2.1, r.2.2.2.2.1, r.2.2.2.2.2)) (sC s, sI s, sP s, fun _ => nI 0, 0, 1, 0, 0, nI 0, nI 0)).2.2).2.1 (rPpl tp len (rLaw tp len (nextT tp len (r.1, r.2.1, 0, r.2.2.2.1, r.2.2.2.2.1, r.2.2.2.2.2)) (sC s, sI s, sP s, fun _ => nI 0, 0, 1, 0, 0, nI 0, nI 0)).2.1 (rLaw tp len (nextT tp len (r.1, r.2.1, 0, r.2.2.2.1, r.2.2.2.2.1, r.2.2.2.2.2)) (sC s, sI s, sP s, fun _ => nI 0, 0, 1, 0, 0, nI 0, nI 0)).2.2).2.2).1 = true then (if (rDbts tp len (rPpl tp len (rLaw tp len (nextT tp len (r.1, r.2.1, 0, r.2.2.2.1, r.2.2.2.2.1, r.2.2.2.2.2)) (sC s, sI s, sP s, fun _ => nI 0, 0, 1, 0, 0, nI 0, nI 0)).2.1 (rLaw tp len (nextT tp len (r.1, r.2.1, 0, r.2.2.2.1, r.2.2.2.2.1, r.2.2.2.2.2)) (sC s, sI s, sP s, fun _ => nI 0, 0, 1, 0, 0, nI 0, nI 0)).2.2).2.1 (rPpl tp len (rLaw tp len (nextT tp len (r.1, r.2.1, 0, r.2.2.2.1, r.2.2.2.2.1, r.2.2.2.2.2)) (sC s, sI s, sP s, fun _ => nI 0, 0, 1, 0, 0, nI 0, nI 0)).2.1 (rLaw tp len (nextT tp len (r.1, r.2.1, 0, r.2.2.2.1, r.2.2.2.2.1, r.2.2.2.2.2)) (sC s, sI s, sP s, fun _ => nI 0, 0, 1, 0, 0, nI 0, nI 0)).2.2).2.2).2.1.1 = 0 then (true, (rDbts tp len (rPpl tp len (rLaw tp len (nextT tp len (r.1, r.2.1, 0, r.2.2.2.1, r.2.2.2.2.1, r.2.2.2.2.2)) (sC s, sI s, sP s, fun _ => nI 0, 0, 1, 0, 0, nI 0, nI 0)).2.1 (rLaw tp len (nextT tp len (r.1, r.2.1, 0, r.2.2.2.1, r.2.2.2.2.1, r.2.2.2.2.2)) (sC s, sI s, sP s, fun _ => nI 0, 0, 1, 0, 0, nI 0, nI 0)).2.2).2.1 (rPpl tp len (rLaw tp len (nextT tp len (r.1, r.2.1, 0, r.2.2.2.1, r.2.2.2.2.1, r.2.2.2.2.2)) (sC s, sI s, sP s, fun _ => nI 0, 0, 1, 0, 0, nI 0, nI 0)).2.1 (rLaw tp len (nextT tp len (r.1, r.2.1, 0, r.2.2.2.1, r.2.2.2.2.1, r.2.2.2.2.2)) (sC s, sI s, sP s, fun _ => nI 0, 0, 1, 0, 0, nI 0, nI 0)).2.2).2.2).2.1, (rDbts tp len (rPpl tp len (rLaw tp len (nextT tp len (r.1, r.2.1, 0, r.2.2.2.1, r.2.2.2.2.1, r.2.2.2.2.2)) (sC s, sI s, sP s, fun _ => nI 0, 0, 1, 0, 0, nI 0, nI 0)).2.1 (rLaw tp len (nextT tp len (r.1, r.2.1, 0, r.2.2.2.1, r.2.2.2.2.1, r.2.2.2.2.2)) (sC s, sI s, sP s, fun _ => nI 0, 0, 1, 0, 0, nI 0, nI 0)).2.2).2.1 (rPpl tp len (rLaw tp len (nextT tp len (r.1, r.2.1, 0, r.2.2.2.1, r.2.2.2.2.1, r.2.2.2.2.2)) (sC s, sI s, sP s, fun _ => nI 0, 0, 1, 0, 0, nI 0, nI 0)).2.1 (rLaw tp len (nextT tp len (r.1, r.2.1, 0, r.2.2.2.1, r.2.2.2.2.1, r.2.2.2.2.2)) (sC s, sI s, sP s, fun _ => nI 0, 0, 1, 0, 0, nI 0, nI 0)).2.2).2.2).2.2) else (false, hsF 1 (rDbts tp len (rPpl tp len (rLaw tp len (nextT tp len (r.1, r.2.1, 0, r.2.2.2.1, r.2.2.2.2.1, r.2.2.2.2.2)) (sC s, sI s, sP s, fun _ => nI 0, 0, 1, 0, 0, nI 0, nI 0)).2.1 (rLaw tp len (nextT tp len (r.1, r.2.1, 0, r.2.2.2.1, r.2.2.2.2.1, r.2.2.2.2.2)) (sC s, sI s, sP s, fun _ => nI 0, 0, 1, 0, 0, nI 0, nI 0)).2.2).2.1 (rPpl tp len (rLaw tp len (nextT tp len (r.1, r.2.1, 0, r.2.2.2.1, r.2.2.2.2.1, r.2.2.2.2.2)) (sC s, sI s, sP s, fun _ => nI 0, 0, 1, 0, 0, nI 0, nI 0)).2.1 (rLaw tp len (nextT tp len (r.1, r.2.1, 0, r.2.2.2.1, r.2.2.2.2.1, r.2.2.2.2.2)) (sC s, sI s, sP s, fun _ => nI 0, 0, 1, 0, 0, nI 0, nI 0)).2.2).2.2).2.1, (rDbts tp len (rPpl tp len (rLaw tp len (nextT tp len (r.1, r.2.1, 0, r.2.2.2.1, r.2.2.2.2.1, r.2.2.2.2.2)) (sC s, sI s, sP s, fun _ => nI 0, 0, 1, 0, 0, nI 0, nI 0)).2.1 (rLaw tp len (nextT tp len (r.1, r.2.1, 0, r.2.2.2.1, r.2.2.2.2.1, r.2.2.2.2.2)) (sC s, sI s, sP s, fun _ => nI 0, 0, 1, 0, 0, nI 0, nI 0)).2.2).2.1 (rPpl tp len (rLaw tp len (nextT tp len (r.1, r.2.1, 0, r.2.2.2.1, r.2.2.2.2.1, r.2.2.2.2.2)) (sC s, sI s, sP s, fun _ => nI 0, 0, 1, 0, 0, nI 0, nI 0)).2.1 (rLaw tp len (nextT tp len (r.1, r.2.1, 0, r.2.2.2.1, r.2.2.2.2.1, r.2.2.2.2.2)) (sC s, sI s, sP s, fun _ => nI 0, 0, 1, 0, 0, nI 0, nI 0)).2.2).2.2).2.2))
      else (false, (rDbts tp len (rPpl tp len (rLaw tp len (nextT tp len (r.1, r.2.1, 0, r.2.2.2.1, r.2.2.2.2.1, r.2.2.2.2.2)) (sC s, sI s, sP s, fun _ => nI 0, 0, 1, 0, 0, nI 0, nI 0)).2.1 (rLaw tp len (nextT tp len (r.1, r.2.1, 0, r.2.2.2.1, r.2.2.2.2.1, r.2.2.2.2.2)) (sC s, sI s, sP s, fun _ => nI 0, 0, 1, 0, 0, nI 0, nI 0)).2.2).2.1 (rPpl tp len (rLaw tp len (nextT tp len (r.1, r.2.1, 0, r.2.2.2.1, r.2.2.2.2.1, r.2.2.2.2.2)) (sC s, sI s, sP s, fun _ => nI 0, 0, 1, 0, 0, nI 0, nI 0)).2.1 (rLaw tp len (nextT tp len (r.1, r.2.1, 0, r.2.2.2.1, r.2.2.2.2.1, r.2.2.2.2.2)) (sC s, sI s, sP s, fun _ => nI 0, 0, 1, 0, 0, nI 0, nI 0)).2.2).2.2).2.1, (rDbts tp len (rPpl tp len (rLaw tp len (nextT tp len (r.1, r.2.1, 0, r.2.2.2.1, r.2.2.2.2.1, r.2.2.2.2.2)) (sC s, sI s, sP s, fun _ => nI 0, 0, 1, 0, 0, nI 0, nI 0)).2.1 (rLaw tp len (nextT tp len (r.1, r.2.1, 0, r.2.2.2.1, r.2.2.2.2.1, r.2.2.2.2.2)) (sC s, sI s, sP s, fun _ => nI 0, 0, 1, 0, 0, nI 0, nI 0)).2.2).2.1 (rPpl tp len (rLaw tp len (nextT tp len (r.1, r.2.1, 0, r.2.2.2.1, r.2.2.2.2.1, r.2.2.2.2.2)) (sC s, sI s, sP s, fun _ => nI 0, 0, 1, 0, 0, nI 0, nI 0)).2.1 (rLaw tp len (nextT tp len (r.1, r.2.1, 0, r.2.2.2.1, r.2.2.2.2.1, r.2.2.2.2.2)) (sC s, sI s, sP s, fun _ => nI 0, 0, 1, 0, 0, nI 0, nI 0)).2.2).2.2).2.2)
    else (false, (rPpl tp len (rLaw tp len (nextT tp len (r.1, r.2.1, 0, r.2.2.2.1, r.2.2.2.2.1, r.2.2.2.2.2)) (sC s, sI s, sP s, fun _ => nI 0, 0, 1, 0, 0, nI 0, nI 0)).2.1 (rLaw tp len (nextT tp len (r.1, r.2.1, 0, r.2.2.2.1, r.2.2.2.2.1, r.2.2.2.2.2)) (sC s, sI s, sP s, fun _ => nI 0, 0, 1, 0, 0, nI 0, nI 0)).2.2).2.1, (rPpl tp len (rLaw tp len (nextT tp len (r.1, r.2.1, 0, r.2.2.2.1, r.2.2.2.2.1, r.2.2.2.2.2)) (sC s, sI s, sP s, fun _ => nI 0, 0, 1, 0, 0, nI 0, nI 0)).2.1 (rLaw tp len (nextT tp len (r.1, r.2.1, 0, r.2.2.2.1, r.2.2.2.2.1, r.2.2.2.2.2)) (sC s, sI s, sP s, fun _ => nI 0, 0, 1, 0, 0, nI 0, nI 0)).2.2).2.2)
  else (false, (rLaw tp len (nextT tp len (r.1, r.2.1, 0, r.2.2.2.1, r.2.2.2.2.1, r.2.2.2.2.2)) (sC s, sI s, sP s, fun _ => nI 0, 0, 1, 0, 0, nI 0, nI 0)).2.1, (rLaw tp len (nextT tp len (r.1, r.2.1, 0, r.2.2.2.1, r.2.2.2.2.1, r.2.2.2.2.2)) (sC s, sI s, sP s, fun _ => nI 0, 0, 1, 0, 0, nI 0, nI 0)).2.2)
theorem rPpl_ok {tp : Nat → Int32} {len : Nat} {r : RS} {s : TS} (hr : rOK len r) (hs : sOK r) (hN : sN s = 0) : rOK len (rPpl tp len r s).2.1 ∧ sOK (rPpl tp len r s).2.1 ∧ ((rPpl tp len r s).1 = true → 1 ≤ sN (rPpl tp len r s).2.2 ∧ sN (rPpl tp len r s).2.2 ≤ 7) := by
  have hp := pplL_ok (tp := tp) 7 r s hr hs
  unfold rPpl
  by_cases h1 : atI tp r 1 = true
  · rw [if_pos h1]
    by_cases h2 : (pplL tp len 7 r s).1 = true
    · rw [if_pos h2]
      have hq := hp.2.2 h2
      by_cases h3 : atI tp (pplL tp len 7 r s).2.1 1 = true
      · rw [if_pos h3]
        exact ⟨hp.1, hp.2.1, fun h => absurd (show false = true from h) (by decide)⟩
      · rw [if_neg h3]
        refine ⟨hp.1, hp.2.1, fun _ => ⟨?_, by have := hq.2; show sN (pplL tp len 7 r s).2.2 ≤ 7; omega⟩⟩
        show 1 ≤ sN (pplL tp len 7 r s).2.2
        have e : pplL tp len 7 r s = if (rPer tp len r s).1 = true then pplL tp len 6 (rPer tp len r s).2.1 (rPer tp len r s).2.2 else (false, (rPer tp len r s).2.1, (rPer tp len r s).2.2) := by
          show (if atI tp r 1 = true then _ else _) = _
          rw [if_pos h1]
        by_cases h4 : (rPer tp len r s).1 = true
        · rw [if_pos h4] at e
          have ho := rPer_ok (tp := tp) (s := s) hr hs
          have hl := (pplL_ok (tp := tp) 6 _ (rPer tp len r s).2.2 ho.1 ho.2.1).2.2 (by rw [← e]; exact h2)
          rw [e]
          have := hl.1
          have := ho.2.2 h4
          omega
        · rw [if_neg h4] at e
          rw [e] at h2
          exact absurd (show false = true from h2) (by decide)
    · rw [if_neg h2]
      exact ⟨hp.1, hp.2.1, fun h => absurd (show false = true from h) (by decide)⟩
  · rw [if_neg h1]
    exact ⟨hr, hs, fun h => absurd (show false = true from h) (by decide)⟩
theorem rDbts_s {tp : Nat → Int32} {len : Nat} {r : RS} {s : TS} (h : sOK (dbtL tp len 20 r s).2.1) : sOK (rDbts tp len r s).2.1 := by
  unfold rDbts
  split
  · split
    · exact h
    · exact h
  · exact h
section K7
variable {G : GG} {z : Nat} {σ : AH} {tp : Nat → Int32} {len : Nat} {r : RS} {s : TS}
theorem c_readsTown (h19 : σ 19 = some (.inl (1, 400, tp))) (hs : sOK r) (hl : len ≤ 400) : Ct G yX2_readsTown cX2_readsTown 1 (some .boolean) 9 0 0 z (RHr σ len r s) [.ref 18] (some (.int (b2I (rTown tp len r s).1))) z (RHr σ len (rTown tp len r s).2.1 (rTown tp len r s).2.2) := by
  refine Ct.ofJ RX2 rfl [some (.ref 18)] rfl (by decide) Nat.le.refl ?_
  have hr0 : rOK len (nextT tp len (r.1, r.2.1, 0, r.2.2.2.1, r.2.2.2.2.1, r.2.2.2.2.2)) := tk_ok (Nat.zero_le len)
  have hs0 : sOK (nextT tp len (r.1, r.2.1, 0, r.2.2.2.1, r.2.2.2.2.1, r.2.2.2.2.2)) := tk_s
  have oL := rLaw_ok (tp := tp) (s := (sC s, sI s, sP s, fun _ => nI 0, 0, 1, 0, 0, nI 0, nI 0)) hr0 hs0
  have oP := rPpl_ok (tp := tp) (s := (rLaw tp len (nextT tp len (r.1, r.2.1, 0, r.2.2.2.1, r.2.2.2.2.1, r.2.2.2.2.2)) (sC s, sI s, sP s, fun _ => nI 0, 0, 1, 0, 0, nI 0, nI 0)).2.2) oL.1 oL.2.1 oL.2.2
  refine j_aload_n dX2_readsTown_0 rfl rfl ?_
  refine j_iconst (nI 0) dX2_readsTown_1 rfl ?_
  refine j_putf dX2_readsTown_2 2 5 rfl (Nat.le_of_ble_eq_true rfl) fl_X2_22 in_2 tyX2 tyX2_ok nmX2 rfl rfl (by first | exact ups_a | exact RH_tape h19 | exact RH_dr) (Nat.le_of_ble_eq_true rfl) _ (by exact ups_ups) ?_
  refine j_aload_n dX2_readsTown_5 rfl rfl ?_
  refine j_getf dX2_readsTown_6 2 1 rfl (Nat.le_of_ble_eq_true rfl) fl_X2_18 in_2 (by first | exact ups_a | exact RH_tape h19 | exact RH_dr) rfl ?_
  refine j_callV (c_becomesEmptyS RH_Tat) dX2_readsTown_9 rfl mv_X2_26 RH_Tat.o rfl ⟨(Nat.le_of_ble_eq_true rfl), (Nat.le_of_ble_eq_true rfl)⟩ ⟨(Nat.le_of_ble_eq_true rfl), (Nat.le_of_ble_eq_true rfl)⟩ (Nat.le_of_ble_eq_true rfl) ?_
  rw [RH_tw]
  refine j_aload_n dX2_readsTown_12 rfl rfl ?_
  refine j_callV (c_toNextToken (r := (r.1, r.2.1, 0, r.2.2.2.1, r.2.2.2.2.1, r.2.2.2.2.2)) h19 (Nat.zero_le len) hs hl) dX2_readsTown_13 rfl mv_X2_29 (by first | exact ups_a | exact RH_tape h19 | exact RH_dr) rfl ⟨(Nat.le_of_ble_eq_true rfl), (Nat.le_of_ble_eq_true rfl)⟩ ⟨(Nat.le_of_ble_eq_true rfl), (Nat.le_of_ble_eq_true rfl)⟩ (Nat.le_of_ble_eq_true rfl) ?_
  refine j_aload_n dX2_readsTown_16 rfl rfl ?_
  refine j_callV (c_readsLaw h19 hr0 hs0 hl) dX2_readsTown_17 rfl mv_X2_32 (by first | exact ups_a | exact RH_tape h19 | exact RH_dr) rfl ⟨(Nat.le_of_ble_eq_true rfl), (Nat.le_of_ble_eq_true rfl)⟩ ⟨(Nat.le_of_ble_eq_true rfl), (Nat.le_of_ble_eq_true rfl)⟩ (Nat.le_of_ble_eq_true rfl) ?_
  refine j_if_eq 37 dX2_readsTown_20 (by decide) (fun b20 => ?_) (fun b20 => ?_)
  · refine j_iconst (nI 0) dX2_readsTown_37 rfl ?_
    exact j_zret .boolean rfl rfl dX2_readsTown_38 (by unfold rTown; first | (rw [if_pos hw, if_pos hw2, if_neg (b2I_n b34)]; rfl) | (rw [if_pos hw, if_neg (b2I_n b27)]; rfl) | (rw [if_neg (b2I_n b20)]; rfl) | done) (by unfold rTown; first | rw [if_pos hw, if_pos hw2, if_neg (b2I_n b34)] | rw [if_pos hw, if_neg (b2I_n b27)] | rw [if_neg (b2I_n b20)] | done) (Nat.le_of_ble_eq_true rfl) (Nat.le_of_ble_eq_true rfl)
  · have hw := b2I_1 b20
    refine j_aload_n dX2_readsTown_23 rfl rfl ?_
    refine j_callV (c_readsPeople h19 oL.1 oL.2.1 hl oL.2.2) dX2_readsTown_24 rfl mv_X2_36 (by first | exact ups_a | exact RH_tape h19 | exact RH_dr) rfl ⟨(Nat.le_of_ble_eq_true rfl), (Nat.le_of_ble_eq_true rfl)⟩ ⟨(Nat.le_of_ble_eq_true rfl), (Nat.le_of_ble_eq_true rfl)⟩ (Nat.le_of_ble_eq_true rfl) ?_
    refine j_if_eq 37 dX2_readsTown_27 (by decide) (fun b27 => ?_) (fun b27 => ?_)
    · refine j_iconst (nI 0) dX2_readsTown_37 rfl ?_
      exact j_zret .boolean rfl rfl dX2_readsTown_38 (by unfold rTown; first | (rw [if_pos hw, if_pos hw2, if_neg (b2I_n b34)]; rfl) | (rw [if_pos hw, if_neg (b2I_n b27)]; rfl) | (rw [if_neg (b2I_n b20)]; rfl) | done) (by unfold rTown; first | rw [if_pos hw, if_pos hw2, if_neg (b2I_n b34)] | rw [if_pos hw, if_neg (b2I_n b27)] | rw [if_neg (b2I_n b20)] | done) (Nat.le_of_ble_eq_true rfl) (Nat.le_of_ble_eq_true rfl)
    · have hw2 := b2I_1 b27
      have hNN := oP.2.2 hw2
      refine j_aload_n dX2_readsTown_30 rfl rfl ?_
      refine j_callV (c_readsDebts h19 oP.1 oP.2.1 hl hNN.2 hNN.1) dX2_readsTown_31 rfl mv_X2_39 (by first | exact ups_a | exact RH_tape h19 | exact RH_dr) rfl ⟨(Nat.le_of_ble_eq_true rfl), (Nat.le_of_ble_eq_true rfl)⟩ ⟨(Nat.le_of_ble_eq_true rfl), (Nat.le_of_ble_eq_true rfl)⟩ (Nat.le_of_ble_eq_true rfl) ?_
      refine j_if_ne 39 dX2_readsTown_34 (by decide) (fun b34 => ?_) (fun b34 => ?_)
      · have oD := dbtL_ok (tp := tp) 20 (rPpl tp len (rLaw tp len (nextT tp len (r.1, r.2.1, 0, r.2.2.2.1, r.2.2.2.2.1, r.2.2.2.2.2)) (sC s, sI s, sP s, fun _ => nI 0, 0, 1, 0, 0, nI 0, nI 0)).2.1 (rLaw tp len (nextT tp len (r.1, r.2.1, 0, r.2.2.2.1, r.2.2.2.2.1, r.2.2.2.2.2)) (sC s, sI s, sP s, fun _ => nI 0, 0, 1, 0, 0, nI 0, nI 0)).2.2).2.1 (rPpl tp len (rLaw tp len (nextT tp len (r.1, r.2.1, 0, r.2.2.2.1, r.2.2.2.2.1, r.2.2.2.2.2)) (sC s, sI s, sP s, fun _ => nI 0, 0, 1, 0, 0, nI 0, nI 0)).2.1 (rLaw tp len (nextT tp len (r.1, r.2.1, 0, r.2.2.2.1, r.2.2.2.2.1, r.2.2.2.2.2)) (sC s, sI s, sP s, fun _ => nI 0, 0, 1, 0, 0, nI 0, nI 0)).2.2).2.2 oP.1 oP.2.1
        have hsD : (rDbts tp len (rPpl tp len (rLaw tp len (nextT tp len (r.1, r.2.1, 0, r.2.2.2.1, r.2.2.2.2.1, r.2.2.2.2.2)) (sC s, sI s, sP s, fun _ => nI 0, 0, 1, 0, 0, nI 0, nI 0)).2.1 (rLaw tp len (nextT tp len (r.1, r.2.1, 0, r.2.2.2.1, r.2.2.2.2.1, r.2.2.2.2.2)) (sC s, sI s, sP s, fun _ => nI 0, 0, 1, 0, 0, nI 0, nI 0)).2.2).2.1 (rPpl tp len (rLaw tp len (nextT tp len (r.1, r.2.1, 0, r.2.2.2.1, r.2.2.2.2.1, r.2.2.2.2.2)) (sC s, sI s, sP s, fun _ => nI 0, 0, 1, 0, 0, nI 0, nI 0)).2.1 (rLaw tp len (nextT tp len (r.1, r.2.1, 0, r.2.2.2.1, r.2.2.2.2.1, r.2.2.2.2.2)) (sC s, sI s, sP s, fun _ => nI 0, 0, 1, 0, 0, nI 0, nI 0)).2.2).2.2).2.1.1 ≤ 4 := rDbts_s oD.2.1
        refine j_aload_n dX2_readsTown_39 rfl rfl ?_
        refine j_getf dX2_readsTown_40 2 3 rfl (Nat.le_of_ble_eq_true rfl) fl_X2_42 in_2 (by first | exact ups_a | exact RH_tape h19 | exact RH_dr) rfl ?_
        refine j_if_eq 54 dX2_readsTown_43 (by decide) (fun b43 => ?_) (fun b43 => ?_)
        · have h43 : (rDbts tp len (rPpl tp len (rLaw tp len (nextT tp len (r.1, r.2.1, 0, r.2.2.2.1, r.2.2.2.2.1, r.2.2.2.2.2)) (sC s, sI s, sP s, fun _ => nI 0, 0, 1, 0, 0, nI 0, nI 0)).2.1 (rLaw tp len (nextT tp len (r.1, r.2.1, 0, r.2.2.2.1, r.2.2.2.2.1, r.2.2.2.2.2)) (sC s, sI s, sP s, fun _ => nI 0, 0, 1, 0, 0, nI 0, nI 0)).2.2).2.1 (rPpl tp len (rLaw tp len (nextT tp len (r.1, r.2.1, 0, r.2.2.2.1, r.2.2.2.2.1, r.2.2.2.2.2)) (sC s, sI s, sP s, fun _ => nI 0, 0, 1, 0, 0, nI 0, nI 0)).2.1 (rLaw tp len (nextT tp len (r.1, r.2.1, 0, r.2.2.2.1, r.2.2.2.2.1, r.2.2.2.2.2)) (sC s, sI s, sP s, fun _ => nI 0, 0, 1, 0, 0, nI 0, nI 0)).2.2).2.2).2.1.1 = 0 := (nI_eq (b := 0) (by omega) (by omega)).mp b43
          refine j_iconst (nI 1) dX2_readsTown_54 rfl ?_
          refine j_goto 59 dX2_readsTown_55 (by decide) ?_
          exact j_zret .boolean rfl rfl dX2_readsTown_59 (by unfold rTown; first | (rw [if_pos hw, if_pos hw2, if_pos (b2I_1 b34), if_pos h43]; rfl) | (rw [if_pos hw, if_pos hw2, if_pos (b2I_1 b34), if_neg h43]; rfl) | done) (by unfold rTown; first | rw [if_pos hw, if_pos hw2, if_pos (b2I_1 b34), if_pos h43] | rw [if_pos hw, if_pos hw2, if_pos (b2I_1 b34), if_neg h43] | done) (Nat.le_of_ble_eq_true rfl) (Nat.le_of_ble_eq_true rfl)
        · have h43 : ¬ (rDbts tp len (rPpl tp len (rLaw tp len (nextT tp len (r.1, r.2.1, 0, r.2.2.2.1, r.2.2.2.2.1, r.2.2.2.2.2)) (sC s, sI s, sP s, fun _ => nI 0, 0, 1, 0, 0, nI 0, nI 0)).2.1 (rLaw tp len (nextT tp len (r.1, r.2.1, 0, r.2.2.2.1, r.2.2.2.2.1, r.2.2.2.2.2)) (sC s, sI s, sP s, fun _ => nI 0, 0, 1, 0, 0, nI 0, nI 0)).2.2).2.1 (rPpl tp len (rLaw tp len (nextT tp len (r.1, r.2.1, 0, r.2.2.2.1, r.2.2.2.2.1, r.2.2.2.2.2)) (sC s, sI s, sP s, fun _ => nI 0, 0, 1, 0, 0, nI 0, nI 0)).2.1 (rLaw tp len (nextT tp len (r.1, r.2.1, 0, r.2.2.2.1, r.2.2.2.2.1, r.2.2.2.2.2)) (sC s, sI s, sP s, fun _ => nI 0, 0, 1, 0, 0, nI 0, nI 0)).2.2).2.2).2.1.1 = 0 := fun q => b43 (by rw [q]; rfl)
          refine j_aload_n dX2_readsTown_46 rfl rfl ?_
          refine j_iconst (nI 1) dX2_readsTown_47 rfl ?_
          refine j_callV (c_hasFault 1) dX2_readsTown_48 rfl mv_X2_45 (by first | exact ups_a | exact RH_tape h19 | exact RH_dr) rfl ⟨(Nat.le_of_ble_eq_true rfl), (Nat.le_of_ble_eq_true rfl)⟩ ⟨(Nat.le_of_ble_eq_true rfl), (Nat.le_of_ble_eq_true rfl)⟩ (Nat.le_of_ble_eq_true rfl) ?_
          refine j_top (nI 0) rfl ?_
          refine j_if_eq 58 dX2_readsTown_51 (by decide) (fun _ => ?_) (fun h => absurd rfl h)
          refine j_iconst (nI 0) dX2_readsTown_58 rfl ?_
          exact j_zret .boolean rfl rfl dX2_readsTown_59 (by unfold rTown; first | (rw [if_pos hw, if_pos hw2, if_pos (b2I_1 b34), if_pos h43]; rfl) | (rw [if_pos hw, if_pos hw2, if_pos (b2I_1 b34), if_neg h43]; rfl) | done) (by unfold rTown; first | rw [if_pos hw, if_pos hw2, if_pos (b2I_1 b34), if_pos h43] | rw [if_pos hw, if_pos hw2, if_pos (b2I_1 b34), if_neg h43] | done) (Nat.le_of_ble_eq_true rfl) (Nat.le_of_ble_eq_true rfl)
      · refine j_iconst (nI 0) dX2_readsTown_37 rfl ?_
        exact j_zret .boolean rfl rfl dX2_readsTown_38 (by unfold rTown; first | (rw [if_pos hw, if_pos hw2, if_neg (b2I_n b34)]; rfl) | (rw [if_pos hw, if_neg (b2I_n b27)]; rfl) | (rw [if_neg (b2I_n b20)]; rfl) | done) (by unfold rTown; first | rw [if_pos hw, if_pos hw2, if_neg (b2I_n b34)] | rw [if_pos hw, if_neg (b2I_n b27)] | rw [if_neg (b2I_n b20)] | done) (Nat.le_of_ble_eq_true rfl) (Nat.le_of_ble_eq_true rfl)
end K7

/-! THE READER: all people, all debts, a town -/
theorem f_ne_t : ¬ (false = true) := by decide
noncomputable def pplL (tp : Nat → Int32) (len : Nat) : Nat → RS → TS → Bool × RS × TS
  | 0, r, s => (true, r, s)
  | f + 1, r, s => if atI tp r 1 = true then (if (rPer tp len r s).1 = true then pplL tp len f (rPer tp len r s).2.1 (rPer tp len r s).2.2 else (false, (rPer tp len r s).2.1, (rPer tp len r s).2.2)) else (true, r, s)
noncomputable def rPpl (tp : Nat → Int32) (len : Nat) (r : RS) (s : TS) : Bool × RS × TS :=
  if atI tp r 1 = true then (if (pplL tp len 7 r s).1 = true then (if atI tp (pplL tp len 7 r s).2.1 1 = true then (false, hsF 3 (pplL tp len 7 r s).2.1, (pplL tp len 7 r s).2.2) else (true, (pplL tp len 7 r s).2.1, (pplL tp len 7 r s).2.2)) else (false, (pplL tp len 7 r s).2.1, (pplL tp len 7 r s).2.2)) else (false, hsF 1 r, s)
noncomputable def dbtL (tp : Nat → Int32) (len : Nat) : Nat → RS → TS → Bool × RS × TS
  | 0, r, s => (true, r, s)
  | f + 1, r, s => if atI tp r 4 = true then (if (rDbt tp len r s).1 = true then dbtL tp len f (rDbt tp len r s).2.1 (rDbt tp len r s).2.2 else (false, (rDbt tp len r s).2.1, (rDbt tp len r s).2.2)) else (true, r, s)
noncomputable def rDbts (tp : Nat → Int32) (len : Nat) (r : RS) (s : TS) : Bool × RS × TS :=
  if (dbtL tp len 20 r s).1 = true then (if atI tp (dbtL tp len 20 r s).2.1 4 = true then (false, hsF 3 (dbtL tp len 20 r s).2.1, (dbtL tp len 20 r s).2.2) else (true, (dbtL tp len 20 r s).2.1, (dbtL tp len 20 r s).2.2)) else (false, (dbtL tp len 20 r s).2.1, (dbtL tp len 20 r s).2.2)
theorem rPer_ok {tp : Nat → Int32} {len : Nat} {r : RS} {s : TS} (hr : rOK len r) (hs : sOK r) : rOK len (rPer tp len r s).2.1 ∧ sOK (rPer tp len r s).2.1 ∧ ((rPer tp len r s).1 = true → sN (rPer tp len r s).2.2 = sN s + 1) := by
  unfold rPer
  by_cases h1 : (tWord tp len 1 r).1 = true
  · rw [if_pos h1]
    by_cases h2 : (tNum tp len (nI 0) (nI 999) (-1) (tWord tp len 1 r).2).1 = true
    · rw [if_pos h2]
      by_cases h3 : (tNum tp len (nI 0) (nI 99) (-1) (tNum tp len (nI 0) (nI 999) (-1) (tWord tp len 1 r).2).2).1 = true
      · rw [if_pos h3]
        by_cases h4 : (tWord tp len (if atI tp (tNum tp len (nI 0) (nI 99) (-1) (tNum tp len (nI 0) (nI 999) (-1) (tWord tp len 1 r).2).2).2 2 = true then 2 else 3) (tNum tp len (nI 0) (nI 99) (-1) (tNum tp len (nI 0) (nI 999) (-1) (tWord tp len 1 r).2).2).2).1 = true
        · rw [if_pos h4]
          exact ⟨tSign_ok (tWord_ok (tNum_ok (tNum_ok (tWord_ok hr)))), tSign_s (tWord_s (tNum_s (tNum_s (tWord_s hs)))), fun _ => rfl⟩
        · rw [if_neg h4]
          exact ⟨tWord_ok (tNum_ok (tNum_ok (tWord_ok hr))), tWord_s (tNum_s (tNum_s (tWord_s hs))), fun h => absurd (show false = true from h) (by decide)⟩
      · rw [if_neg h3]
        exact ⟨tNum_ok (tNum_ok (tWord_ok hr)), tNum_s (tNum_s (tWord_s hs)), fun h => absurd (show false = true from h) (by decide)⟩
    · rw [if_neg h2]
      exact ⟨tNum_ok (tWord_ok hr), tNum_s (tWord_s hs), fun h => absurd (show false = true from h) (by decide)⟩
  · rw [if_neg h1]
    exact ⟨tWord_ok hr, tWord_s hs, fun h => absurd (show false = true from h) (by decide)⟩
theorem rDbt_ok {tp : Nat → Int32} {len : Nat} {r : RS} {s : TS} (hr : rOK len r) (hs : sOK r) : rOK len (rDbt tp len r s).2.1 ∧ sOK (rDbt tp len r s).2.1 ∧ sN (rDbt tp len r s).2.2 = sN s := by
  unfold rDbt
  split
  · split
    · split
      · split
        · exact ⟨tSign_ok (tNum_ok (tNum_ok (tNum_ok (tWord_ok hr)))), tSign_s (tNum_s (tNum_s (tNum_s (tWord_s hs)))), rfl⟩
        · exact ⟨tNum_ok (tNum_ok (tNum_ok (tWord_ok hr))), tNum_s (tNum_s (tNum_s (tWord_s hs))), rfl⟩
      · exact ⟨tNum_ok (tNum_ok (tWord_ok hr)), tNum_s (tNum_s (tWord_s hs)), rfl⟩
    · exact ⟨tNum_ok (tWord_ok hr), tNum_s (tWord_s hs), rfl⟩
  · exact ⟨tWord_ok hr, tWord_s hs, rfl⟩
theorem rLaw_ok {tp : Nat → Int32} {len : Nat} {r : RS} {s : TS} (hr : rOK len r) (hs : sOK r) : rOK len (rLaw tp len r s).2.1 ∧ sOK (rLaw tp len r s).2.1 ∧ sN (rLaw tp len r s).2.2 = sN s := by
  unfold rLaw
  split
  · split
    · split
      · exact ⟨tSign_ok (tNum_ok (tNum_ok (tWord_ok hr))), tSign_s (tNum_s (tNum_s (tWord_s hs))), rfl⟩
      · exact ⟨tNum_ok (tNum_ok (tWord_ok hr)), tNum_s (tNum_s (tWord_s hs)), rfl⟩
    · exact ⟨tNum_ok (tWord_ok hr), tNum_s (tWord_s hs), rfl⟩
  · exact ⟨tWord_ok hr, tWord_s hs, rfl⟩
theorem pplL_ok {tp : Nat → Int32} {len : Nat} : ∀ (f : Nat) (r : RS) (s : TS), rOK len r → sOK r → rOK len (pplL tp len f r s).2.1 ∧ sOK (pplL tp len f r s).2.1 ∧ ((pplL tp len f r s).1 = true → sN s ≤ sN (pplL tp len f r s).2.2 ∧ sN (pplL tp len f r s).2.2 ≤ sN s + f)
  | 0, r, s, hr, hs => ⟨hr, hs, fun _ => ⟨Nat.le_refl _, Nat.le_refl _⟩⟩
  | f + 1, r, s, hr, hs => by
    have h := rPer_ok (tp := tp) (s := s) hr hs
    unfold pplL
    split
    · split
      · rename_i hp
        obtain ⟨a, b, c⟩ := pplL_ok f (rPer tp len r s).2.1 (rPer tp len r s).2.2 h.1 h.2.1
        have hn := h.2.2 hp
        exact ⟨a, b, fun q => ⟨by have := (c q).1; omega, by have := (c q).2; omega⟩⟩
      · exact ⟨h.1, h.2.1, fun q => absurd (show false = true from q) (by decide)⟩
    · exact ⟨hr, hs, fun _ => ⟨Nat.le_refl _, by show sN s ≤ sN s + (f + 1); omega⟩⟩
theorem dbtL_ok {tp : Nat → Int32} {len : Nat} : ∀ (f : Nat) (r : RS) (s : TS), rOK len r → sOK r → rOK len (dbtL tp len f r s).2.1 ∧ sOK (dbtL tp len f r s).2.1 ∧ sN (dbtL tp len f r s).2.2 = sN s
  | 0, r, s, hr, hs => ⟨hr, hs, rfl⟩
  | f + 1, r, s, hr, hs => by
    have h := rDbt_ok (tp := tp) (s := s) hr hs
    unfold dbtL
    split
    · split
      · obtain ⟨a, b, c⟩ := dbtL_ok f (rDbt tp len r s).2.1 (rDbt tp len r s).2.2 h.1 h.2.1
        exact ⟨a, b, c.trans h.2.2⟩
      · exact ⟨h.1, h.2.1, h.2.2⟩
    · exact ⟨hr, hs, rfl⟩
section K6
variable {G : GG} {z : Nat} {σ : AH} {tp : Nat → Int32} {len : Nat} {r : RS} {s : TS}
theorem c_readsPeople (h19 : σ 19 = some (.inl (1, 400, tp))) (hr : rOK len r) (hs : sOK r) (hl : len ≤ 400) (hN : sN s = 0) : Ct G yX2_readsPeople cX2_readsPeople 2 (some .boolean) 8 0 0 z (RHr σ len r s) [.ref 18] (some (.int (b2I (rPpl tp len r s).1))) z (RHr σ len (rPpl tp len r s).2.1 (rPpl tp len r s).2.2) := by
  refine Ct.ofJ RX2 rfl [some (.ref 18), none] rfl (by decide) (by simp [Value.category]) ?_
  refine j_aload_n dX2_readsPeople_0 rfl rfl ?_
  refine j_ldcS (i := 1) rfl (by decide) rfl dX2_readsPeople_1 ?_
  refine j_callV (c_isAtWord h19 (by decide) hr hs hl) dX2_readsPeople_3 rfl mv_X2_73 (by first | exact ups_a | exact RH_tape h19 | exact RH_dr) rfl ⟨(Nat.le_of_ble_eq_true rfl), (Nat.le_of_ble_eq_true rfl)⟩ ⟨(Nat.le_of_ble_eq_true rfl), (Nat.le_of_ble_eq_true rfl)⟩ (Nat.le_of_ble_eq_true rfl) ?_
  refine j_if_ne 15 dX2_readsPeople_6 (by decide) (fun b6 => ?_) (fun b6 => ?_)
  · refine j_iconst (nI 0) dX2_readsPeople_15 rfl ?_
    refine j_istore_n dX2_readsPeople_16 rfl (Nat.le_of_ble_eq_true rfl) rfl ?_
    suffices H : ∀ (f k : Nat) (r2 : RS) (s2 : TS), k + f = 7 → sN s2 = k → rOK len r2 → sOK r2 → pplL tp len 7 r s = pplL tp len f r2 s2 → J G RX2 cX2_readsPeople 2 (some .boolean) (TQ G 8 0 0 (some (.int (b2I (rPpl tp len r s).1))) z (RHr σ len (rPpl tp len r s).2.1 (rPpl tp len r s).2.2)) z (RHr σ len r2 s2) 0 0 17 [some (.ref 18), some (.int (nI k))] [] from H 7 0 r s rfl hN hr hs rfl
    have hat := b2I_1 b6
    have hend : ∀ (k : Nat) (r2 : RS) (s2 : TS), rOK len r2 → sOK r2 → pplL tp len 7 r s = (true, r2, s2) → J G RX2 cX2_readsPeople 2 (some .boolean) (TQ G 8 0 0 (some (.int (b2I (rPpl tp len r s).1))) z (RHr σ len (rPpl tp len r s).2.1 (rPpl tp len r s).2.2)) z (RHr σ len r2 s2) 0 0 47 [some (.ref 18), some (.int (nI k))] [] := by
      intro k r2 s2 hr2 hs2 he
      unfold rPpl
      rw [if_pos hat, he, if_pos rfl]
      refine j_aload_n dX2_readsPeople_47 rfl rfl ?_
      refine j_ldcS (i := 1) rfl (by decide) rfl dX2_readsPeople_48 ?_
      refine j_callV (c_isAtWord h19 (by decide) hr2 hs2 hl) dX2_readsPeople_50 rfl mv_X2_73 (by first | exact ups_a | exact RH_tape h19 | exact RH_dr) rfl ⟨(Nat.le_of_ble_eq_true rfl), (Nat.le_of_ble_eq_true rfl)⟩ ⟨(Nat.le_of_ble_eq_true rfl), (Nat.le_of_ble_eq_true rfl)⟩ (Nat.le_of_ble_eq_true rfl) ?_
      refine j_if_eq 64 dX2_readsPeople_53 (by decide) (fun b53 => ?_) (fun b53 => ?_)
      · rw [if_neg (b2I_n b53)]
        refine j_iconst (nI 1) dX2_readsPeople_64 rfl ?_
        refine j_goto 69 dX2_readsPeople_65 (by decide) ?_
        exact j_zret .boolean rfl rfl dX2_readsPeople_69 rfl rfl (Nat.le_of_ble_eq_true rfl) (Nat.le_of_ble_eq_true rfl)
      · rw [if_pos (b2I_1 b53)]
        refine j_aload_n dX2_readsPeople_56 rfl rfl ?_
        refine j_iconst (nI 3) dX2_readsPeople_57 rfl ?_
        refine j_callV (c_hasFault 3) dX2_readsPeople_58 rfl mv_X2_45 (by first | exact ups_a | exact RH_tape h19 | exact RH_dr) rfl ⟨(Nat.le_of_ble_eq_true rfl), (Nat.le_of_ble_eq_true rfl)⟩ ⟨(Nat.le_of_ble_eq_true rfl), (Nat.le_of_ble_eq_true rfl)⟩ (Nat.le_of_ble_eq_true rfl) ?_
        refine j_top (nI 0) rfl ?_
        refine j_if_eq 68 dX2_readsPeople_61 (by decide) (fun _ => ?_) (fun h => absurd rfl h)
        refine j_iconst (nI 0) dX2_readsPeople_68 rfl ?_
        exact j_zret .boolean rfl rfl dX2_readsPeople_69 rfl rfl (Nat.le_of_ble_eq_true rfl) (Nat.le_of_ble_eq_true rfl)
    intro f
    induction f with
    | zero =>
      intro k r2 s2 hk hn hr2 hs2 he
      refine j_iload_n dX2_readsPeople_17 rfl rfl ?_
      refine j_bipush (nI 7) dX2_readsPeople_18 rfl ?_
      refine j_icmp_geN 47 dX2_readsPeople_20 (by decide) (by omega) (by omega) (fun b20 => ?_) (fun b20 => by exfalso; omega)
      exact hend k r2 s2 hr2 hs2 he
    | succ f ih =>
      intro k r2 s2 hk hn hr2 hs2 he
      have he2 : pplL tp len 7 r s = if atI tp r2 1 = true then (if (rPer tp len r2 s2).1 = true then pplL tp len f (rPer tp len r2 s2).2.1 (rPer tp len r2 s2).2.2 else (false, (rPer tp len r2 s2).2.1, (rPer tp len r2 s2).2.2)) else (true, r2, s2) := he
      have hok := rPer_ok (tp := tp) (s := s2) hr2 hs2
      refine j_iload_n dX2_readsPeople_17 rfl rfl ?_
      refine j_bipush (nI 7) dX2_readsPeople_18 rfl ?_
      refine j_icmp_geN 47 dX2_readsPeople_20 (by decide) (by omega) (by omega) (fun b20 => by exfalso; omega) (fun b20 => ?_)
      refine j_aload_n dX2_readsPeople_23 rfl rfl ?_
      refine j_ldcS (i := 1) rfl (by decide) rfl dX2_readsPeople_24 ?_
      refine j_callV (c_isAtWord h19 (by decide) hr2 hs2 hl) dX2_readsPeople_26 rfl mv_X2_73 (by first | exact ups_a | exact RH_tape h19 | exact RH_dr) rfl ⟨(Nat.le_of_ble_eq_true rfl), (Nat.le_of_ble_eq_true rfl)⟩ ⟨(Nat.le_of_ble_eq_true rfl), (Nat.le_of_ble_eq_true rfl)⟩ (Nat.le_of_ble_eq_true rfl) ?_
      refine j_if_eq 47 dX2_readsPeople_29 (by decide) (fun b29 => ?_) (fun b29 => ?_)
      · rw [if_neg (b2I_n b29)] at he2
        exact hend k r2 s2 hr2 hs2 he2
      · rw [if_pos (b2I_1 b29)] at he2
        refine j_aload_n dX2_readsPeople_32 rfl rfl ?_
        refine j_callV (c_readsPerson h19 hr2 hs2 hl (by omega)) dX2_readsPeople_33 rfl mv_X2_76 (by first | exact ups_a | exact RH_tape h19 | exact RH_dr) rfl ⟨(Nat.le_of_ble_eq_true rfl), (Nat.le_of_ble_eq_true rfl)⟩ ⟨(Nat.le_of_ble_eq_true rfl), (Nat.le_of_ble_eq_true rfl)⟩ (Nat.le_of_ble_eq_true rfl) ?_
        refine j_if_ne 41 dX2_readsPeople_36 (by decide) (fun b36 => ?_) (fun b36 => ?_)
        · first | refine j_iincN dX2_readsPeople_41 rfl (Nat.le_of_ble_eq_true rfl) rfl ?_ | refine j_iinc _ dX2_readsPeople_41 rfl rfl (Nat.le_of_ble_eq_true rfl) rfl ?_
          refine j_goto 17 dX2_readsPeople_44 (by decide) ?_
          rw [if_pos (b2I_1 b36)] at he2
          exact ih (k + 1) _ _ (by omega) (by rw [hok.2.2 (b2I_1 b36), hn]) hok.1 hok.2.1 he2
        · refine j_iconst (nI 0) dX2_readsPeople_39 rfl ?_
          exact j_zret .boolean rfl rfl dX2_readsPeople_40 (by unfold rPpl; rw [if_pos hat, he2, if_neg (b2I_n b36), if_neg (show ¬ (false, (rPer tp len r2 s2).2.1, (rPer tp len r2 s2).2.2).1 = true from f_ne_t)]; rfl) (by unfold rPpl; rw [if_pos hat, he2, if_neg (b2I_n b36), if_neg (show ¬ (false, (rPer tp len r2 s2).2.1, (rPer tp len r2 s2).2.2).1 = true from f_ne_t)]) (Nat.le_of_ble_eq_true rfl) (Nat.le_of_ble_eq_true rfl)
  · refine j_aload_n dX2_readsPeople_9 rfl rfl ?_
    refine j_iconst (nI 1) dX2_readsPeople_10 rfl ?_
    refine j_callV (c_hasFault 1) dX2_readsPeople_11 rfl mv_X2_45 (by first | exact ups_a | exact RH_tape h19 | exact RH_dr) rfl ⟨(Nat.le_of_ble_eq_true rfl), (Nat.le_of_ble_eq_true rfl)⟩ ⟨(Nat.le_of_ble_eq_true rfl), (Nat.le_of_ble_eq_true rfl)⟩ (Nat.le_of_ble_eq_true rfl) ?_
    exact j_zret .boolean rfl rfl dX2_readsPeople_14 (by unfold rPpl; rw [if_neg (b2I_n b6)]; rfl) (by unfold rPpl; rw [if_neg (b2I_n b6)]) (Nat.le_of_ble_eq_true rfl) (Nat.le_of_ble_eq_true rfl)
theorem c_readsDebts (h19 : σ 19 = some (.inl (1, 400, tp))) (hr : rOK len r) (hs : sOK r) (hl : len ≤ 400) (hN : sN s ≤ 7) (h1N : 1 ≤ sN s) : Ct G yX2_readsDebts cX2_readsDebts 2 (some .boolean) 8 0 0 z (RHr σ len r s) [.ref 18] (some (.int (b2I (rDbts tp len r s).1))) z (RHr σ len (rDbts tp len r s).2.1 (rDbts tp len r s).2.2) := by
  refine Ct.ofJ RX2 rfl [some (.ref 18), none] rfl (by decide) (by simp [Value.category]) ?_
  refine j_iconst (nI 0) dX2_readsDebts_0 rfl ?_
  refine j_istore_n dX2_readsDebts_1 rfl (Nat.le_of_ble_eq_true rfl) rfl ?_
  suffices H : ∀ (f k : Nat) (r2 : RS) (s2 : TS), k + f = 20 → sN s2 = sN s → rOK len r2 → sOK r2 → dbtL tp len 20 r s = dbtL tp len f r2 s2 → J G RX2 cX2_readsDebts 2 (some .boolean) (TQ G 8 0 0 (some (.int (b2I (rDbts tp len r s).1))) z (RHr σ len (rDbts tp len r s).2.1 (rDbts tp len r s).2.2)) z (RHr σ len r2 s2) 0 0 2 [some (.ref 18), some (.int (nI k))] [] from H 20 0 r s rfl rfl hr hs rfl
  have hend : ∀ (k : Nat) (r2 : RS) (s2 : TS), rOK len r2 → sOK r2 → dbtL tp len 20 r s = (true, r2, s2) → J G RX2 cX2_readsDebts 2 (some .boolean) (TQ G 8 0 0 (some (.int (b2I (rDbts tp len r s).1))) z (RHr σ len (rDbts tp len r s).2.1 (rDbts tp len r s).2.2)) z (RHr σ len r2 s2) 0 0 32 [some (.ref 18), some (.int (nI k))] [] := by
    intro k r2 s2 hr2 hs2 he
    unfold rDbts
    rw [he, if_pos rfl]
    refine j_aload_n dX2_readsDebts_32 rfl rfl ?_
    refine j_ldcS (i := 4) rfl (by decide) rfl dX2_readsDebts_33 ?_
    refine j_callV (c_isAtWord h19 (by decide) hr2 hs2 hl) dX2_readsDebts_35 rfl mv_X2_73 (by first | exact ups_a | exact RH_tape h19 | exact RH_dr) rfl ⟨(Nat.le_of_ble_eq_true rfl), (Nat.le_of_ble_eq_true rfl)⟩ ⟨(Nat.le_of_ble_eq_true rfl), (Nat.le_of_ble_eq_true rfl)⟩ (Nat.le_of_ble_eq_true rfl) ?_
    refine j_if_eq 49 dX2_readsDebts_38 (by decide) (fun b38 => ?_) (fun b38 => ?_)
    · rw [if_neg (b2I_n b38)]
      refine j_iconst (nI 1) dX2_readsDebts_49 rfl ?_
      refine j_goto 54 dX2_readsDebts_50 (by decide) ?_
      exact j_zret .boolean rfl rfl dX2_readsDebts_54 rfl rfl (Nat.le_of_ble_eq_true rfl) (Nat.le_of_ble_eq_true rfl)
    · rw [if_pos (b2I_1 b38)]
      refine j_aload_n dX2_readsDebts_41 rfl rfl ?_
      refine j_iconst (nI 3) dX2_readsDebts_42 rfl ?_
      refine j_callV (c_hasFault 3) dX2_readsDebts_43 rfl mv_X2_45 (by first | exact ups_a | exact RH_tape h19 | exact RH_dr) rfl ⟨(Nat.le_of_ble_eq_true rfl), (Nat.le_of_ble_eq_true rfl)⟩ ⟨(Nat.le_of_ble_eq_true rfl), (Nat.le_of_ble_eq_true rfl)⟩ (Nat.le_of_ble_eq_true rfl) ?_
      refine j_top (nI 0) rfl ?_
      refine j_if_eq 53 dX2_readsDebts_46 (by decide) (fun _ => ?_) (fun h => absurd rfl h)
      refine j_iconst (nI 0) dX2_readsDebts_53 rfl ?_
      exact j_zret .boolean rfl rfl dX2_readsDebts_54 rfl rfl (Nat.le_of_ble_eq_true rfl) (Nat.le_of_ble_eq_true rfl)
  intro f
  induction f with
  | zero =>
    intro k r2 s2 hk hn hr2 hs2 he
    refine j_iload_n dX2_readsDebts_2 rfl rfl ?_
    refine j_bipush (nI 20) dX2_readsDebts_3 rfl ?_
    refine j_icmp_geN 32 dX2_readsDebts_5 (by decide) (by omega) (by omega) (fun b5 => ?_) (fun b5 => by exfalso; omega)
    exact hend k r2 s2 hr2 hs2 he
  | succ f ih =>
    intro k r2 s2 hk hn hr2 hs2 he
    have he2 : dbtL tp len 20 r s = if atI tp r2 4 = true then (if (rDbt tp len r2 s2).1 = true then dbtL tp len f (rDbt tp len r2 s2).2.1 (rDbt tp len r2 s2).2.2 else (false, (rDbt tp len r2 s2).2.1, (rDbt tp len r2 s2).2.2)) else (true, r2, s2) := he
    have hok := rDbt_ok (tp := tp) (s := s2) hr2 hs2
    refine j_iload_n dX2_readsDebts_2 rfl rfl ?_
    refine j_bipush (nI 20) dX2_readsDebts_3 rfl ?_
    refine j_icmp_geN 32 dX2_readsDebts_5 (by decide) (by omega) (by omega) (fun b5 => by exfalso; omega) (fun b5 => ?_)
    refine j_aload_n dX2_readsDebts_8 rfl rfl ?_
    refine j_ldcS (i := 4) rfl (by decide) rfl dX2_readsDebts_9 ?_
    refine j_callV (c_isAtWord h19 (by decide) hr2 hs2 hl) dX2_readsDebts_11 rfl mv_X2_73 (by first | exact ups_a | exact RH_tape h19 | exact RH_dr) rfl ⟨(Nat.le_of_ble_eq_true rfl), (Nat.le_of_ble_eq_true rfl)⟩ ⟨(Nat.le_of_ble_eq_true rfl), (Nat.le_of_ble_eq_true rfl)⟩ (Nat.le_of_ble_eq_true rfl) ?_
    refine j_if_eq 32 dX2_readsDebts_14 (by decide) (fun b14 => ?_) (fun b14 => ?_)
    · rw [if_neg (b2I_n b14)] at he2
      exact hend k r2 s2 hr2 hs2 he2
    · rw [if_pos (b2I_1 b14)] at he2
      refine j_aload_n dX2_readsDebts_17 rfl rfl ?_
      refine j_callV (c_readsDebt h19 hr2 hs2 hl (by omega) (by omega)) dX2_readsDebts_18 rfl mv_X2_89 (by first | exact ups_a | exact RH_tape h19 | exact RH_dr) rfl ⟨(Nat.le_of_ble_eq_true rfl), (Nat.le_of_ble_eq_true rfl)⟩ ⟨(Nat.le_of_ble_eq_true rfl), (Nat.le_of_ble_eq_true rfl)⟩ (Nat.le_of_ble_eq_true rfl) ?_
      refine j_if_ne 26 dX2_readsDebts_21 (by decide) (fun b21 => ?_) (fun b21 => ?_)
      · first | refine j_iincN dX2_readsDebts_26 rfl (Nat.le_of_ble_eq_true rfl) rfl ?_ | refine j_iinc _ dX2_readsDebts_26 rfl rfl (Nat.le_of_ble_eq_true rfl) rfl ?_
        refine j_goto 2 dX2_readsDebts_29 (by decide) ?_
        rw [if_pos (b2I_1 b21)] at he2
        exact ih (k + 1) _ _ (by omega) (hok.2.2.trans hn) hok.1 hok.2.1 he2
      · refine j_iconst (nI 0) dX2_readsDebts_24 rfl ?_
        exact j_zret .boolean rfl rfl dX2_readsDebts_25 (by unfold rDbts; rw [he2, if_neg (b2I_n b21), if_neg (show ¬ (false, (rDbt tp len r2 s2).2.1, (rDbt tp len r2 s2).2.2).1 = true from f_ne_t)]; rfl) (by unfold rDbts; rw [he2, if_neg (b2I_n b21), if_neg (show ¬ (false, (rDbt tp len r2 s2).2.1, (rDbt tp len r2 s2).2.2).1 = true from f_ne_t)]) (Nat.le_of_ble_eq_true rfl) (Nat.le_of_ble_eq_true rfl)
end K6

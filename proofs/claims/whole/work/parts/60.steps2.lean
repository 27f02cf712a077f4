/-! ONE CALL OF BOTH: acts, what is foretold, what is asked (template printed by wip/tools/mkm60.py) -/
theorem twR.ok {d : TS} (h : twR d) {p : Nat} (hp : p < sN d) : okT d := by
  rcases h with h | h
  · exact h
  · omega
section S2
variable {G : GG} {z : Nat} {y5 : MethodName} {c5 : ByteArray} {n5 f5 : Nat} {y6 : MethodName} {c6 : ByteArray} {n6 f6 : Nat} {As : List Value} {σ : AH} {lf fd : Int32} {rl rn : Nat → Int32} {ri : Nat → Nat → Int32} {tp : Nat → Int32} {len : Nat} {r : RS} {dd d df : TS} {nx kp : Nat} {da di : Nat → TS} {tr : Nat} {bo ne a1 a2 a3 a4 a5 a6 a7 a8 a9 : Nat → Int32} {i4 i5 i6 i10 : Int32}
/-- nothing changes: a town that stands -/
theorem Bst_town (H : (IX σ lf fd rl rn ri tp len r dd d df nx kp da di tr bo ne a1 a2 a3 a4 a5 a6 a7 a8 a9 i4 i5 i6 i10)) (ok : okT d) {v : Int32} (h5 : Ct G y5 c5 n5 (some .int) f5 0 0 z σ (.ref 0 :: As) (some (.int v)) z σ) (h6 : Ct G y6 c6 n6 (some .int) f6 0 0 z (mH σ (encT d) a1 a2 a3 a4 a5 a6 a7 a8 a9 ne bo (nI kp) fd lf (nI len) i4 i5 i6 r.2.2.2.1 r.2.2.2.2.2 r.2.2.2.2.1 i10 (nI tr)) (.ref 171 :: As) (some (.int v)) z (mH σ (encT d) a1 a2 a3 a4 a5 a6 a7 a8 a9 ne bo (nI kp) fd lf (nI len) i4 i5 i6 r.2.2.2.1 r.2.2.2.2.2 r.2.2.2.2.1 i10 (nI tr))) : Bst G z y5 c5 n5 f5 y6 c6 n6 f6 As σ :=
  Bst_same H h5 (by rw [ok.g]; exact h6)
/-- an act -/
theorem Bst_act (H : (IX σ lf fd rl rn ri tp len r dd d df nx kp da di tr bo ne a1 a2 a3 a4 a5 a6 a7 a8 a9 i4 i5 i6 i10)) (ok : okT d) (d' : TS) (ok' : okT d') {v : Int32} (h5 : Ct G y5 c5 n5 (some .int) f5 0 0 z σ (.ref 0 :: As) (some (.int v)) z (twS (kpH σ nx kp d) 25 d')) (h6 : Ct G y6 c6 n6 (some .int) f6 0 0 z (mH (twS (kpH σ nx kp d) 25 d') (encT d) a1 a2 a3 a4 a5 a6 a7 a8 a9 ne bo (nI kp) fd lf (nI len) i4 i5 i6 r.2.2.2.1 r.2.2.2.2.2 r.2.2.2.2.1 i10 (nI tr)) (.ref 171 :: As) (some (.int v)) z (mH (twS (kpH σ nx kp d) 25 d') (encT (d')) a1 a2 a3 (remW kp a4 (encT d)) a5 a6 a7 a8 a9 ne bo (nI (min (kp + 1) 24)) fd lf (nI len) i4 i5 i6 r.2.2.2.1 r.2.2.2.2.2 r.2.2.2.2.1 i10 (nI tr))) : Bst G z y5 c5 n5 f5 y6 c6 n6 f6 As σ := by
  have hn := H.2.2.2.2.2.2.2.2.1.1
  exact Bst_mk H (twS (kpH σ nx kp d) 25 d') lf fd rl rn ri tp len r dd (d') df (nxt nx) (min (kp + 1) 24) (va_up da nx d) di tr bo ne a1 a2 a3 (remW kp a4 (encT d)) a5 a6 a7 a8 a9 i4 i5 i6 i10 h5 (fun q h1 h2 => (twS_x (by omega)).trans ((ups_x (by omega)).trans (twS_x (by omega)))) (((H.1.act nx hn d).acts (nxt nx) (min (kp + 1) 24)).town d') ⟨H.2.2.1, H.2.2.2.1, H.2.2.2.2.1, H.2.2.2.2.2.1, H.2.2.2.2.2.2.1, Or.inl ok', H.2.2.2.2.2.2.2.2.1.keep ok, H.2.2.2.2.2.2.2.2.2.1, H.2.2.2.2.2.2.2.2.2.2⟩ (by rw [ok.g, ok'.g]; exact h6)
theorem s_loan (H : (IX σ lf fd rl rn ri tp len r dd d df nx kp da di tr bo ne a1 a2 a3 a4 a5 a6 a7 a8 a9 i4 i5 i6 i10)) (a b c : Int32) : Bst G z yX5_loan cX5_loan 5 4 yX6_loan cX6_loan 4 4 [.int a, .int b, .int c] σ := by
  have hN := H.2.2.2.2.2.2.2.1.n
  rcases nq_c a b hN with h | ⟨p, q, hp, hq, hpq, rfl, rfl⟩
  · exact Bst_same H (x_loan_bad H.1 a b c (Or.inl h)) (m_loan_bad (encG_n d) hN a b c (Or.inl h))
  · have ok := H.2.2.2.2.2.2.2.1.ok hp
    by_cases h1 : c < nI 1
    · exact Bst_same H (x_loan_bad H.1 (nI p) (nI q) c (Or.inr (Or.inl h1))) (m_loan_bad (encG_n d) hN (nI p) (nI q) c (Or.inr (Or.inl h1)))
    · by_cases h2 : nI 999 < c
      · exact Bst_same H (x_loan_bad H.1 (nI p) (nI q) c (Or.inr (Or.inr h2))) (m_loan_bad (encG_n d) hN (nI p) (nI q) c (Or.inr (Or.inr h2)))
      · have h2' := Int32.not_lt.mp h2
        by_cases h3 : sC d q < c
        · exact Bst_town H ok (x_loan_state H.1 hN hp hq hpq c h1 h2' h3) (m_loan_state hN hp hq hpq c h1 h2' h3)
        · by_cases h4 : sD d (p * 7 + q) + c ≤ 99999
          · exact Bst_act H ok _ (ok.loan hp hq h1 h2' h3 h4) (x_loan_ok H.1 hN hp hq hpq H.2.2.2.2.2.2.2.2.1.1 H.2.2.2.2.2.2.2.2.1.2.1 c h1 h2' h3 h4) (m_loan_ok hN hp hq hpq H.2.2.2.2.2.2.2.2.1.2.1 c h1 h2' h3 h4)
          · exact Bst_town H ok (x_loan_full H.1 hN hp hq hpq c h1 h2' h3 h4) (m_loan_full hN hp hq hpq c h1 h2' h3 h4)
theorem s_pay (H : (IX σ lf fd rl rn ri tp len r dd d df nx kp da di tr bo ne a1 a2 a3 a4 a5 a6 a7 a8 a9 i4 i5 i6 i10)) (a b c : Int32) : Bst G z yX5_pay cX5_pay 4 4 yX6_pay cX6_pay 4 4 [.int a, .int b, .int c] σ := by
  have hN := H.2.2.2.2.2.2.2.1.n
  rcases nq_c a b hN with h | ⟨p, q, hp, hq, hpq, rfl, rfl⟩
  · exact Bst_same H (x_pay_bad H.1 a b c (Or.inl h)) (m_pay_bad (encG_n d) hN a b c (Or.inl h))
  · have ok := H.2.2.2.2.2.2.2.1.ok hp
    by_cases h1 : c < nI 1
    · exact Bst_same H (x_pay_bad H.1 (nI p) (nI q) c (Or.inr (Or.inl h1))) (m_pay_bad (encG_n d) hN (nI p) (nI q) c (Or.inr (Or.inl h1)))
    · by_cases h2 : 99999 < c
      · exact Bst_same H (x_pay_bad H.1 (nI p) (nI q) c (Or.inr (Or.inr h2))) (m_pay_bad (encG_n d) hN (nI p) (nI q) c (Or.inr (Or.inr h2)))
      · have h2' := Int32.not_lt.mp h2
        by_cases h3 : sD d (p * 7 + q) < c
        · exact Bst_town H ok (x_pay_state H.1 hN hp hq hpq c h1 h2' (Or.inl h3)) (m_pay_state hN hp hq hpq c h1 h2' (Or.inl h3))
        · by_cases h4 : sC d p < c
          · exact Bst_town H ok (x_pay_state H.1 hN hp hq hpq c h1 h2' (Or.inr h4)) (m_pay_state hN hp hq hpq c h1 h2' (Or.inr h4))
          · exact Bst_act H ok _ (ok.pay hp hq h1 h3 h4) (x_pay_ok H.1 hN hp hq hpq H.2.2.2.2.2.2.2.2.1.1 H.2.2.2.2.2.2.2.2.1.2.1 c h1 h2' h3 h4) (m_pay_ok hN hp hq hpq H.2.2.2.2.2.2.2.2.1.2.1 c h1 h2' h3 h4)
theorem s_paint (H : (IX σ lf fd rl rn ri tp len r dd d df nx kp da di tr bo ne a1 a2 a3 a4 a5 a6 a7 a8 a9 i4 i5 i6 i10)) (a b : Int32) : Bst G z yX5_paint cX5_paint 4 5 yX6_paint cX6_paint 4 5 [.int a, .int b] σ := by
  have hN := H.2.2.2.2.2.2.2.1.n
  rcases np_c a hN with h | ⟨p, hp, rfl⟩
  · exact Bst_same H (x_paint_bad H.1 a b (Or.inl h)) (m_paint_bad (encG_n d) hN a b (Or.inl h))
  · have ok := H.2.2.2.2.2.2.2.1.ok hp
    rcases in_c b (lo := 0) (hi := 9) (by decide) (by decide) with h | h | ⟨v, _, hv, rfl⟩
    · exact Bst_same H (x_paint_bad H.1 (nI p) b (Or.inr (Or.inl h))) (m_paint_bad (encG_n d) hN (nI p) b (Or.inr (Or.inl h)))
    · exact Bst_same H (x_paint_bad H.1 (nI p) b (Or.inr (Or.inr h))) (m_paint_bad (encG_n d) hN (nI p) b (Or.inr (Or.inr h)))
    · exact Bst_act H ok _ (ok.paint (p := p) hv) (x_paint_ok H.1 hN hp ok.2.2.1 ok.2.2.2.1 H.2.2.2.2.2.2.2.2.1.1 H.2.2.2.2.2.2.2.2.1.2.1 (nI v) (nI_pos (by omega)) (nI_le hv (by omega))) (m_paint_ok hN hp ok.2.2.1 ok.2.2.2.1 (ok.p p hp) H.2.2.2.2.2.2.2.2.1.2.1 hv)
theorem s_hedge (H : (IX σ lf fd rl rn ri tp len r dd d df nx kp da di tr bo ne a1 a2 a3 a4 a5 a6 a7 a8 a9 i4 i5 i6 i10)) (a b : Int32) : Bst G z yX5_hedge cX5_hedge 4 4 yX6_hedge cX6_hedge 4 4 [.int a, .int b] σ := by
  have hN := H.2.2.2.2.2.2.2.1.n
  rcases np_c a hN with h | ⟨p, hp, rfl⟩
  · exact Bst_same H (x_hedge_bad H.1 a b (Or.inl h)) (m_hedge_bad (encG_n d) hN a b (Or.inl h))
  · have ok := H.2.2.2.2.2.2.2.1.ok hp
    rcases in_c b (lo := 0) (hi := 1) (by decide) (by decide) with h | h | ⟨v, _, hv, rfl⟩
    · exact Bst_same H (x_hedge_bad H.1 (nI p) b (Or.inr (Or.inl h))) (m_hedge_bad (encG_n d) hN (nI p) b (Or.inr (Or.inl h)))
    · exact Bst_same H (x_hedge_bad H.1 (nI p) b (Or.inr (Or.inr h))) (m_hedge_bad (encG_n d) hN (nI p) b (Or.inr (Or.inr h)))
    · exact Bst_act H ok _ (ok.hedge _) (x_hedge_ok H.1 hN hp H.2.2.2.2.2.2.2.2.1.1 H.2.2.2.2.2.2.2.2.1.2.1 (nI v) (nI_pos (by omega)) (nI_le hv (by omega))) (m_hedge_ok hN hp H.2.2.2.2.2.2.2.2.1.2.1 hv)
theorem s_quarter (H : (IX σ lf fd rl rn ri tp len r dd d df nx kp da di tr bo ne a1 a2 a3 a4 a5 a6 a7 a8 a9 i4 i5 i6 i10)) (s : Int32) : Bst G z yX5_quarter cX5_quarter 2 6 yX6_quarter cX6_quarter 9 6 [.int s] σ := by
  rcases H.2.2.2.2.2.2.2.1.c with ok | ⟨h0, hg, _⟩
  · by_cases h1 : s < 0
    · exact Bst_same H (x_quarter_bad H.1 s ok.2.1 ok.1 (Or.inl h1)) (m_quarter_bad ok.u s (Or.inl h1))
    · by_cases h2 : 999999 < s
      · exact Bst_same H (x_quarter_bad H.1 s ok.2.1 ok.1 (Or.inr h2)) (m_quarter_bad ok.u s (Or.inr h2))
      · have h2' := Int32.not_lt.mp h2
        have hq := ok.2.2.2.2.2.1
        by_cases h : sQ d < 999
        · exact Bst_act H ok (quT d s) (ok.quarter h1 h) (x_quarter_ok H.1 s ok.2.1 ok.1 h1 h2' h H.2.2.2.2.2.2.2.2.1.1 H.2.2.2.2.2.2.2.2.1.2.1 ok.inc) (m_quarter_ok ok.2.1 ok.2.2.1 ok.2.2.2.1 s h1 h2' h H.2.2.2.2.2.2.2.2.1.2.1 ok.inc (ok.paid h1))
        · exact Bst_same H (x_quarter_full H.1 s ok.2.1 ok.1 h1 h2' (by omega) (by omega)) (m_quarter_full ok.u s h1 h2' (by rw [ok.g, enc_q, show sQ d = 999 by omega]))
  · exact Bst_same H (x_quarter_state H.1 s h0) (m_quarter_state (by rw [hg]) s)
theorem s_undo (H : (IX σ lf fd rl rn ri tp len r dd d df nx kp da di tr bo ne a1 a2 a3 a4 a5 a6 a7 a8 a9 i4 i5 i6 i10)) : Bst G z yX5_undo cX5_undo 1 4 yX6_undo cX6_undo 2 4 [] σ := by
  by_cases h : kp = 0
  · subst h
    exact Bst_same H (x_undo_state H.1 rfl) m_undo_state
  · obtain ⟨k1, k2, k3⟩ := H.2.2.2.2.2.2.2.2.1.undo (by omega)
    exact Bst_mk H (twS (ups σ 35 (xA (prv nx) (kp - 1))) 25 (da (prv nx))) lf fd rl rn ri tp len r dd (da (prv nx)) df (prv nx) (kp - 1) da di tr bo ne a1 a2 a3 a4 a5 a6 a7 a8 a9 i4 i5 i6 i10 (x_undo_ok H.1 (by omega) H.2.2.2.2.2.2.2.2.1.1 H.2.2.2.2.2.2.2.2.1.2.1) (fun q h1 h2 => (twS_x (by omega)).trans (ups_x (by omega))) ((H.1.acts (prv nx) (kp - 1)).town (da (prv nx))) ⟨H.2.2.1, H.2.2.2.1, H.2.2.2.2.1, H.2.2.2.2.2.1, H.2.2.2.2.2.2.1, Or.inl k1, k3, H.2.2.2.2.2.2.2.2.2.1, H.2.2.2.2.2.2.2.2.2.2⟩ (m_undo_ok (by omega) H.2.2.2.2.2.2.2.2.1.2.1 (encG (da (prv nx))) (by rw [k1.g]; exact k2))
theorem s_person (H : (IX σ lf fd rl rn ri tp len r dd d df nx kp da di tr bo ne a1 a2 a3 a4 a5 a6 a7 a8 a9 i4 i5 i6 i10)) (a w : Int32) : Bst G z yX5_person cX5_person 3 5 yX6_person_ cX6_person_ 4 5 [.int a, .int w] σ := by
  have hN := H.2.2.2.2.2.2.2.1.n
  rcases np_c a hN with h | ⟨p, hp, rfl⟩
  · exact Bst_same H (x_person_bad H.1 a w h) (m_person_bad (encG_n d) hN a w h)
  · have ok := H.2.2.2.2.2.2.2.1.ok hp
    rcases in_c w (lo := 10) (hi := 9 + sN d) (by omega) (by omega) with h | h | ⟨j, hj1, hj2, rfl⟩
    · rcases in_c w (lo := 0) (hi := 7) (by decide) (by decide) with h2 | h2 | ⟨j, _, hj, rfl⟩
      · have e : w.toInt < 0 ∨ 7 < w.toInt := Or.inl (by have := ti_lt.mp h2; rw [nI_toInt (by decide)] at this; omega)
        exact Bst_town H ok (x_person_else H.1 hN hp w (Or.inl h) e) (m_person_else hN hp w (Or.inl h) e)
      · have e : w.toInt < 0 ∨ 7 < w.toInt := Or.inr (by have := ti_lt.mp h2; rw [nI_toInt (by decide)] at this; omega)
        exact Bst_town H ok (x_person_else H.1 hN hp w (Or.inl h) e) (m_person_else hN hp w (Or.inl h) e)
      · rcases (show j = 0 ∨ j = 1 ∨ j = 2 ∨ j = 3 ∨ j = 4 ∨ j = 5 ∨ j = 6 ∨ j = 7 by omega) with e | e | e | e | e | e | e | e
        · subst e; exact Bst_town H ok (x_person_0 H.1 hN hp) (m_person_0 hN hp)
        · subst e; exact Bst_town H ok (x_person_1 H.1 hN hp) (m_person_1 hN hp)
        · subst e; exact Bst_town H ok (x_person_2 H.1 hN hp) (m_person_2 hN hp)
        · subst e; exact Bst_town H ok (x_person_3 H.1 hN hp ok.2.2.1 ok.2.2.2.1) (m_person_3 hN hp ok.2.2.1 ok.2.2.2.1)
        · subst e; exact Bst_town H ok (x_person_4 H.1 hN hp ok.2.2.1 ok.2.2.2.1) (m_person_4 hN hp ok.2.2.1 ok.2.2.2.1 (ok.p p hp))
        · subst e; exact Bst_town H ok (x_person_5 H.1 hN hp) (m_person_5 hN hp)
        · subst e; exact Bst_town H ok (x_person_6 H.1 hN hp) (m_person_6 hN hp)
        · subst e; exact Bst_town H ok (x_person_7 H.1 hN hp) (m_person_7 hN hp)
    · have e1 := ti_lt.mp h
      rw [nI_toInt (by omega)] at e1
      have e2 : nI (10 + sN d) ≤ w := ti_le.mpr (by rw [nI_toInt (by omega)]; omega)
      have e : w.toInt < 0 ∨ 7 < w.toInt := Or.inr (by omega)
      exact Bst_town H ok (x_person_else H.1 hN hp w (Or.inr e2) e) (m_person_else hN hp w (Or.inr e2) e)
    · obtain ⟨q, hq, e⟩ : ∃ q, q < sN d ∧ j = 10 + q := ⟨j - 10, by omega, by omega⟩
      subst e
      exact Bst_town H ok (x_person_debt H.1 hN hp hq) (m_person_debt hN hp hq)
theorem s_fits (H : (IX σ lf fd rl rn ri tp len r dd d df nx kp da di tr bo ne a1 a2 a3 a4 a5 a6 a7 a8 a9 i4 i5 i6 i10)) (a b c : Int32) : Bst G z yX5_fits cX5_fits 5 3 yX6_fits cX6_fits 13 3 [.int a, .int b, .int c] σ := by
  rcases nr_c a with h | ⟨k, hk, rfl⟩
  · exact Bst_same H (x_fits_bad a b c (Or.inl h)) (m_fits_bad a b c (Or.inl h))
  · rcases in_c c (lo := 0) (hi := 3) (by decide) (by decide) with h | h | ⟨m, _, hm, rfl⟩
    · exact Bst_same H (x_fits_bad (nI k) b c (Or.inr (Or.inl h))) (m_fits_bad (nI k) b c (Or.inr (Or.inl h)))
    · exact Bst_same H (x_fits_bad (nI k) b c (Or.inr (Or.inr h))) (m_fits_bad (nI k) b c (Or.inr (Or.inr h)))
    · rcases H.2.2.1 k hk with ⟨e1, e2⟩ | ⟨la, m2, hla, hm2, e1, e2, e3, e4, e5⟩
      · exact Bst_find H (nI 1) (x_fits_null H.1 b hk hm e1) (m_fits_null hk hm b e2)
      · have hl : ¬ rl k = -1 := by rw [e1]; exact nI_m1 (by omega)
        rcases rng_c b (nI 6) hm2 with q | ⟨j, q6, rfl, hq6, hle, q⟩
        · exact Bst_find H (nI 2) (x_fits_place H.1 b hk hm hl (by rw [e2]; exact q)) (m_fits_place hk hm b e3 hm2 q)
        · have h6 : 6 = q6 := (nI_eq (by omega) (by omega)).mp hq6
          subst h6
          have hr : rngI (nI j) (nI 6) (rn k) = nI 1 := by rw [e2]; exact q
          have ex : ∀ t, t < 6 → ri k (j + t) = a7 (40 * k + (j + t)) := fun t ht => e5 (j + t) (by omega)
          have ex3 : ∀ t, t < 3 → ri k (j + 3 + t) = a7 (40 * k + (j + 3 + t)) := fun t ht => e5 (j + 3 + t) (by omega)
          by_cases hok : ∀ t, t < 3 → okI (ri k (j + t)) (ri k (j + 3 + t))
          · have hok2 : ∀ t, t < 3 → okI ((fun q => a7 (40 * k + q)) (j + t)) ((fun q => a7 (40 * k + q)) (j + 3 + t)) := fun t ht => by
              show okI (a7 (40 * k + (j + t))) (a7 (40 * k + (j + 3 + t)))
              rw [← ex t (by omega), ← ex3 t ht]
              exact hok t ht
            refine Bst_mk H (ups σ 0 (xO lf (nI 0))) lf (nI 0) rl rn ri tp len r dd d df nx kp da di tr bo ne a1 a2 a3 a4 a5 a6 a7 a8 (sxA m a9 ((m + 1) ^ 6)) i4 i5 i6 i10 (x_fits_ok H.1 hk hm hl hr (by omega) hok) (fun q h1 h2 => ups_x (by omega)) (H.1.obj lf (nI 0)) H.2.2 ?_
            rw [ftA_ext (it2 := fun q => a7 (40 * k + q)) (fun t ht => ex t ht)]
            exact m_fits_ok hk hm e3 hm2 hle hok2
          · obtain ⟨t, ht⟩ := Classical.not_forall.mp hok
            obtain ⟨ht3, hno⟩ := Classical.not_imp.mp ht
            refine Bst_same H (x_fits_item H.1 hk hm hl hr (by omega) ⟨t, ht3, hno⟩) (m_fits_item hk hm e3 hm2 hle ⟨t, ht3, ?_⟩)
            show ¬ okI (a7 (40 * k + (j + t))) (a7 (40 * k + (j + 3 + t)))
            rw [← ex t (by omega), ← ex3 t ht3]
            exact hno
theorem s_hiding (H : (IX σ lf fd rl rn ri tp len r dd d df nx kp da di tr bo ne a1 a2 a3 a4 a5 a6 a7 a8 a9 i4 i5 i6 i10)) (w : Int32) : Bst G z yX5_hiding cX5_hiding 3 5 yX6_hiding cX6_hiding 8 5 [.int w] σ := by
  rcases H.2.2.2.2.2.2.2.1.c with ok | ⟨h0, hg, _⟩
  · rcases in_c w (lo := 0) (hi := 1) (by decide) (by decide) with h | h | ⟨v, _, hv, rfl⟩
    · exact Bst_same H (x_hiding_bad H.1 w ok.2.1 ok.1 (Or.inl h)) (m_hiding_bad ok.u w (Or.inl h))
    · exact Bst_same H (x_hiding_bad H.1 w ok.2.1 ok.1 (Or.inr h)) (m_hiding_bad ok.u w (Or.inr h))
    · exact Bst_mk H (twS (twS σ 30 d) 30 (sC d, sI d, sP d, (strA (sN d) (sD d) (sN d)).1, sN d, sU d, sR d, sQ d, sH d, sF d)) lf fd rl rn ri tp len r dd d ((sC d, sI d, sP d, (strA (sN d) (sD d) (sN d)).1, sN d, sU d, sR d, sQ d, sH d, sF d)) nx kp da di tr bo ne (encT (sC d, sI d, sP d, (strA (sN d) (sD d) (sN d)).1, sN d, sU d, sR d, sQ d, sH d, sF d)) a2 a3 a4 a5 a6 a7 a8 a9 i4 i5 i6 i10 (x_hiding_ok H.1 ok.2.1 ok.1 ok.2.2.1 ok.2.2.2.1 hv) (fun q h1 h2 => (twS_x (by omega)).trans (twS_x (by omega))) ((H.1.fore d).fore _) H.2.2 (by rw [ok.g]; exact m_hiding_ok ok.2.1 ok.2.2.1 ok.2.2.2.1 hv)
  · exact Bst_same H (x_hiding_state H.1 w h0) (m_hiding_state (by rw [hg]) w)
theorem s_clear (H : (IX σ lf fd rl rn ri tp len r dd d df nx kp da di tr bo ne a1 a2 a3 a4 a5 a6 a7 a8 a9 i4 i5 i6 i10)) (c : Int32) : Bst G z yX5_clear cX5_clear 5 5 yX6_clear cX6_clear 4 5 [.int c] σ := by
  rcases H.2.2.2.2.2.2.2.1.c with ok | ⟨h0, hg, _⟩
  · by_cases h1 : c < 0
    · exact Bst_same H (x_clear_bad H.1 c ok.2.1 ok.1 (Or.inl h1)) (m_clear_bad ok.u c (Or.inl h1))
    · by_cases h2 : 999999 < c
      · exact Bst_same H (x_clear_bad H.1 c ok.2.1 ok.1 (Or.inr h2)) (m_clear_bad ok.u c (Or.inr h2))
      · have h2' := Int32.not_lt.mp h2
        refine Bst_mk H (ups σ 170 (.inl (0, 7, (gat (sD d) (sN d) (sU d) ne (sN d)).1))) lf fd rl rn ri tp len r dd d df nx kp da di tr bo ((gat (sD d) (sN d) (sU d) ne (sN d)).1) a1 a2 a3 a4 a5 a6 a7 a8 a9 i4 i5 i6 (nI (gat (sD d) (sN d) (sU d) ne (sN d)).2) (x_clear_ok H.1 c ok.2.1 ok.1 ok.2.2.1 ok.2.2.2.1 h1 h2') (fun q h1 h2 => ups_x (by omega)) (H.1.need _) H.2.2 ?_
        rw [ok.g, clear_eq ok h1 h2']
        exact m_clear_ok ok.2.1 ok.2.2.1 ok.2.2.2.1 c h1 h2'
  · exact Bst_same H (x_clear_state H.1 c h0) (m_clear_state (by rw [hg]) c)
theorem s_coin (H : (IX σ lf fd rl rn ri tp len r dd d df nx kp da di tr bo ne a1 a2 a3 a4 a5 a6 a7 a8 a9 i4 i5 i6 i10)) (c : Int32) : Bst G z yX5_coin cX5_coin 4 5 yX6_coin cX6_coin 4 5 [.int c] σ := by
  rcases H.2.2.2.2.2.2.2.1.c with ok | ⟨h0, hg, _⟩
  · rcases in_c c (lo := 0) (hi := 7) (by decide) (by decide) with h | h | ⟨k, _, hk, rfl⟩
    · exact Bst_same H (x_coin_bad H.1 c ok.2.1 ok.1 (Or.inl h)) (m_coin_bad ok.u c (Or.inl h))
    · exact Bst_same H (x_coin_bad H.1 c ok.2.1 ok.1 (Or.inr h)) (m_coin_bad ok.u c (Or.inr h))
    · by_cases h : (gat (sD d) (sN d) (sU d) ne (sN d)).2 < k
      · exact Bst_mk H (ups σ 170 (.inl (0, 7, (gat (sD d) (sN d) (sU d) ne (sN d)).1))) lf fd rl rn ri tp len r dd d df nx kp da di tr bo ((gat (sD d) (sN d) (sU d) ne (sN d)).1) a1 a2 a3 a4 a5 a6 a7 a8 a9 i4 i5 i6 (nI (gat (sD d) (sN d) (sU d) ne (sN d)).2) (x_coin_none H.1 ok.2.1 ok.1 ok.2.2.1 ok.2.2.2.1 hk h) (fun q h1 h2 => ups_x (by omega)) (H.1.need _) H.2.2 (by rw [ok.g]; exact m_coin_none ok.2.1 ok.2.2.1 ok.2.2.2.1 hk h)
      · exact Bst_mk H (ups σ 170 (.inl (0, 7, (gat (sD d) (sN d) (sU d) ne (sN d)).1))) lf fd rl rn ri tp len r dd d df nx kp da di tr bo ((gat (sD d) (sN d) (sU d) ne (sN d)).1) a1 a2 a3 a4 a5 a6 a7 a8 a9 i4 i5 i6 (nI (gat (sD d) (sN d) (sU d) ne (sN d)).2) (x_coin_ok H.1 ok.2.1 ok.1 ok.2.2.1 ok.2.2.2.1 (by omega)) (fun q h1 h2 => ups_x (by omega)) (H.1.need _) H.2.2 (by rw [ok.g]; exact m_coin_ok ok.2.1 ok.2.2.1 ok.2.2.2.1 (by omega))
  · exact Bst_same H (x_coin_state H.1 c h0) (m_coin_state (by rw [hg]) c)
theorem s_run (H : (IX σ lf fd rl rn ri tp len r dd d df nx kp da di tr bo ne a1 a2 a3 a4 a5 a6 a7 a8 a9 i4 i5 i6 i10)) (t w : Int32) : Bst G z yX5_run cX5_run 7 6 yX6_run cX6_run 10 6 [.int t, .int w] σ := by
  rcases H.2.2.2.2.2.2.2.1.c with ok | ⟨h0, hg, _⟩
  · by_cases h1 : t < nI 1
    · exact Bst_same H (x_run_bad H.1 t w ok.2.1 ok.1 (Or.inl h1)) (m_run_bad ok.u t w (Or.inl h1))
    · by_cases h2 : nI 9 < t
      · exact Bst_same H (x_run_bad H.1 t w ok.2.1 ok.1 (Or.inr (Or.inl h2))) (m_run_bad ok.u t w (Or.inr (Or.inl h2)))
      · rcases in_c w (lo := 0) (hi := 2) (by decide) (by decide) with h | h | ⟨v, _, hv, rfl⟩
        · exact Bst_same H (x_run_bad H.1 t w ok.2.1 ok.1 (Or.inr (Or.inr (Or.inl h)))) (m_run_bad ok.u t w (Or.inr (Or.inr (Or.inl h))))
        · exact Bst_same H (x_run_bad H.1 t w ok.2.1 ok.1 (Or.inr (Or.inr (Or.inr h)))) (m_run_bad ok.u t w (Or.inr (Or.inr (Or.inr h))))
        · exact Bst_mk H (twS (twS σ 30 d) 30 ((rnL (sN d) 9 (sC d) (sD d) (seenI (sP d) (sD d) (sH d) t (sN d) (sU d) (sN d)) (seenI (sP d) (sD d) (sH d) t (sN d) (sU d) (sN d)) (nI 0) 0).1, sI d, sP d, (rnL (sN d) 9 (sC d) (sD d) (seenI (sP d) (sD d) (sH d) t (sN d) (sU d) (sN d)) (seenI (sP d) (sD d) (sH d) t (sN d) (sU d) (sN d)) (nI 0) 0).2.1, sN d, sU d, sR d, sQ d, sH d, sF d)) lf fd rl rn ri tp len r dd d (((rnL (sN d) 9 (sC d) (sD d) (seenI (sP d) (sD d) (sH d) t (sN d) (sU d) (sN d)) (seenI (sP d) (sD d) (sH d) t (sN d) (sU d) (sN d)) (nI 0) 0).1, sI d, sP d, (rnL (sN d) 9 (sC d) (sD d) (seenI (sP d) (sD d) (sH d) t (sN d) (sU d) (sN d)) (seenI (sP d) (sD d) (sH d) t (sN d) (sU d) (sN d)) (nI 0) 0).2.1, sN d, sU d, sR d, sQ d, sH d, sF d)) nx kp da di tr bo ne (encT ((rnL (sN d) 9 (sC d) (sD d) (seenI (sP d) (sD d) (sH d) t (sN d) (sU d) (sN d)) (seenI (sP d) (sD d) (sH d) t (sN d) (sU d) (sN d)) (nI 0) 0).1, sI d, sP d, (rnL (sN d) 9 (sC d) (sD d) (seenI (sP d) (sD d) (sH d) t (sN d) (sU d) (sN d)) (seenI (sP d) (sD d) (sH d) t (sN d) (sU d) (sN d)) (nI 0) 0).2.1, sN d, sU d, sR d, sQ d, sH d, sF d)) a2 a3 a4 a5 a6 a7 a8 a9 i4 i5 i6 i10 (x_run_ok H.1 t ok.2.1 ok.1 ok.2.2.1 ok.2.2.2.1 h1 h2 hv) (fun q h1 h2 => (twS_x (by omega)).trans (twS_x (by omega))) ((H.1.fore d).fore _) H.2.2 (by rw [ok.g]; exact m_run_ok t ok h1 h2 hv)
  · exact Bst_same H (x_run_state H.1 t w h0) (m_run_state (by rw [hg]) t w)
theorem s_cheats (H : (IX σ lf fd rl rn ri tp len r dd d df nx kp da di tr bo ne a1 a2 a3 a4 a5 a6 a7 a8 a9 i4 i5 i6 i10)) : Bst G z yX5_cheats cX5_cheats 3 5 yX6_cheats cX6_cheats 3 5 [] σ := by
  rcases H.2.2.2.2.2.2.2.1.c with ok | ⟨h0, hg, _⟩
  · exact Bst_town H ok (x_cheats_ok H.1 ok.2.1 ok.1 ok.2.2.1 ok.2.2.2.1) (m_cheats_ok ok.2.1 ok.2.2.1 ok.2.2.2.1 ok.p)
  · exact Bst_same H (x_cheats_state H.1 h0) (m_cheats_state (by rw [hg]))
theorem s_walk (H : (IX σ lf fd rl rn ri tp len r dd d df nx kp da di tr bo ne a1 a2 a3 a4 a5 a6 a7 a8 a9 i4 i5 i6 i10)) (a b : Int32) : Bst G z yX5_walk cX5_walk 6 5 yX6_walk cX6_walk 6 5 [.int a, .int b] σ := by
  have hN := H.2.2.2.2.2.2.2.1.n
  rcases np_c a hN with h | ⟨p, hp, rfl⟩
  · exact Bst_same H (x_walk_bad H.1 a b (Or.inl h)) (m_walk_bad (encG_n d) hN a b (Or.inl h))
  · rcases np_c b hN with h | ⟨q, hq, rfl⟩
    · exact Bst_same H (x_walk_bad H.1 (nI p) b (Or.inr (Or.inl h))) (m_walk_bad (encG_n d) hN (nI p) b (Or.inr (Or.inl h)))
    · have ok := H.2.2.2.2.2.2.2.1.ok hp
      by_cases h : p ≤ q
      · exact Bst_town H ok (x_walk_ok H.1 hN h hq ok.2.2.1 ok.2.2.2.1) (m_walk_ok hN h hq ok.2.2.1 ok.2.2.2.1 ok.p)
      · have h2 : nI q < nI p := nI_lt (by omega) (by omega)
        exact Bst_same H (x_walk_bad H.1 (nI p) (nI q) (Or.inr (Or.inr h2))) (m_walk_bad (encG_n d) hN (nI p) (nI q) (Or.inr (Or.inr h2)))
theorem s_image (H : (IX σ lf fd rl rn ri tp len r dd d df nx kp da di tr bo ne a1 a2 a3 a4 a5 a6 a7 a8 a9 i4 i5 i6 i10)) (k : Int32) : Bst G z yX5_image cX5_image 2 2 yX6_image cX6_image 3 2 [.int k] σ := by
  rcases pk_ix k (n := 2) (by decide) with h | h | ⟨j, hj, rfl⟩
  · exact Bst_same H (x_image_bad H.1 k (Or.inl h)) (m_image_bad k (Or.inl h))
  · exact Bst_same H (x_image_bad H.1 k (Or.inr (Int32.not_lt.mpr h))) (m_image_bad k (Or.inr (Int32.not_lt.mpr h)))
  · rcases H.2.2.2.2.2.2.2.1.c with ok | ⟨h0, hg, _⟩
    · refine Bst_mk H (twS σ (158 + 5 * j) d) lf fd rl rn ri tp len r dd d df nx kp da (va_up di j d) tr bo ne a1 (va_cpy (encG d) a2 0 (96 * j) 96) (upd a3 j (nI 1)) a4 a5 a6 a7 a8 a9 i4 i5 i6 i10 (x_image_ok H.1 hj ok.2.1 ok.1) (fun q h1 h2 => twS_x (by omega)) (H.1.img j hj d) ⟨H.2.2.1, H.2.2.2.1, H.2.2.2.2.1, H.2.2.2.2.2.1, H.2.2.2.2.2.2.1, H.2.2.2.2.2.2.2.1, H.2.2.2.2.2.2.2.2.1, ?_, H.2.2.2.2.2.2.2.2.2.2⟩ (m_image_ok hj ok.u)
      intro q hq
      by_cases e : q = j
      · subst e
        rw [va_up_a, pk_us]
        exact Or.inr ⟨ok, rfl, fun t ht => by rw [pk_cpy_in (by omega) (by omega), ok.g]; exact congrArg (encT d) (by omega)⟩
      · rw [va_up_x e, pk_un e]
        rcases H.2.2.2.2.2.2.2.2.2.1 q hq with w | ⟨w1, w2, w3⟩
        · exact Or.inl w
        · exact Or.inr ⟨w1, w2, fun t ht => by rw [pk_cpy_out (by omega)]; exact w3 t ht⟩
    · exact Bst_same H (x_image_state H.1 hj h0) (m_image_state hj (by rw [hg]))
theorem s_restore (H : (IX σ lf fd rl rn ri tp len r dd d df nx kp da di tr bo ne a1 a2 a3 a4 a5 a6 a7 a8 a9 i4 i5 i6 i10)) (k : Int32) : Bst G z yX5_restore cX5_restore 2 2 yX6_restore cX6_restore 3 2 [.int k] σ := by
  rcases pk_ix k (n := 2) (by decide) with h | h | ⟨j, hj, rfl⟩
  · exact Bst_same H (x_restore_bad H.1 k (Or.inl h)) (m_restore_bad k (Or.inl h))
  · exact Bst_same H (x_restore_bad H.1 k (Or.inr (Int32.not_lt.mpr h))) (m_restore_bad k (Or.inr (Int32.not_lt.mpr h)))
  · rcases H.2.2.2.2.2.2.2.2.2.1 j hj with ⟨w1, w2⟩ | ⟨w1, w2, w3⟩
    · exact Bst_same H (x_restore_state H.1 hj w1) (m_restore_state hj w2)
    · exact Bst_mk H (ups (twS σ 25 (di j)) 35 (xA 0 0)) lf fd rl rn ri tp len r dd (di j) df 0 0 da di tr bo ne a1 a2 a3 a4 a5 a6 a7 a8 a9 i4 i5 i6 i10 (x_restore_ok H.1 hj w1.2.1 w1.1) (fun q h1 h2 => (ups_x (by omega)).trans (twS_x (by omega))) ((H.1.town (di j)).acts 0 0) ⟨H.2.2.1, H.2.2.2.1, H.2.2.2.2.1, H.2.2.2.2.2.1, H.2.2.2.2.2.2.1, Or.inl w1, actR.none, H.2.2.2.2.2.2.2.2.2.1, H.2.2.2.2.2.2.2.2.2.2⟩ (m_restore_ok hj w2 (encG (di j)) (by rw [w1.g]; exact w3))
theorem s_kind (H : (IX σ lf fd rl rn ri tp len r dd d df nx kp da di tr bo ne a1 a2 a3 a4 a5 a6 a7 a8 a9 i4 i5 i6 i10)) (a : Int32) : Bst G z yX5_kind cX5_kind 2 5 yX6_kind cX6_kind 2 5 [.int a] σ := by
  have hN := H.2.2.2.2.2.2.2.1.n
  rcases np_c a hN with h | ⟨p, hp, rfl⟩
  · exact Bst_same H (x_kind_bad H.1 a h) (m_kind_bad (encG_n d) hN a h)
  · have ok := H.2.2.2.2.2.2.2.1.ok hp
    exact Bst_town H ok (x_kind_ok H.1 hN hp ok.2.2.1 ok.2.2.2.1) (m_kind_ok hN hp ok.2.2.1 ok.2.2.2.1 (ok.z hp))
theorem s_as (H : (IX σ lf fd rl rn ri tp len r dd d df nx kp da di tr bo ne a1 a2 a3 a4 a5 a6 a7 a8 a9 i4 i5 i6 i10)) (a b : Int32) : Bst G z yX5_as cX5_as 3 5 yX6_as cX6_as 5 5 [.int a, .int b] σ := by
  have hN := H.2.2.2.2.2.2.2.1.n
  rcases np_c a hN with h | ⟨p, hp, rfl⟩
  · exact Bst_same H (x_as_bad H.1 a b (Or.inl h)) (m_as_bad (encG_n d) hN a b (Or.inl h))
  · have ok := H.2.2.2.2.2.2.2.1.ok hp
    rcases pk_ix b (n := 6) (by decide) with h | h | ⟨k, hk, rfl⟩
    · exact Bst_same H (x_as_bad H.1 (nI p) b (Or.inr (Or.inl h))) (m_as_bad (encG_n d) hN (nI p) b (Or.inr (Or.inl h)))
    · exact Bst_same H (x_as_bad H.1 (nI p) b (Or.inr (Or.inr (Int32.not_lt.mpr h)))) (m_as_bad (encG_n d) hN (nI p) b (Or.inr (Or.inr (Int32.not_lt.mpr h))))
    · obtain ⟨kd, k1, k2, ek⟩ := kindI_k (sD d) (sF d) (sN d) (sU d) p
      have sb := soM_bit ⟨kd, by omega⟩ k1 ⟨k, hk⟩
      by_cases hs : soM kd k
      · exact Bst_find H (nI 0) (x_as_ok H.1 hN hp ok.2.2.1 ok.2.2.2.1 hk ek (by omega) (fun q => sb.mp q hs)) (by rw [ok.g]; exact m_as_ok hN hp ok.2.2.1 ok.2.2.2.1 (ok.z hp) hk ek (by omega) hs)
      · exact Bst_find H (nI 3) (x_as_kind H.1 hN hp ok.2.2.1 ok.2.2.2.1 hk ek (by omega) (sb.mpr hs)) (by rw [ok.g]; exact m_as_kind hN hp ok.2.2.1 ok.2.2.2.1 (ok.z hp) hk ek (by omega) hs)
theorem s_trace (H : (IX σ lf fd rl rn ri tp len r dd d df nx kp da di tr bo ne a1 a2 a3 a4 a5 a6 a7 a8 a9 i4 i5 i6 i10)) (i : Int32) : Bst G z yX5_trace cX5_trace 2 1 yX6_trace cX6_trace 2 2 [.int i] σ := by
  have ht := H.2.2.2.2.2.2.2.2.2.2
  rcases pk_ix i (n := tr) (by omega) with h | h | ⟨j, hj, rfl⟩
  · exact Bst_same H (x_trace_none H.1 i (Or.inl h)) (m_trace_none ht i (Or.inl h))
  · exact Bst_same H (x_trace_none H.1 i (Or.inr (Int32.not_lt.mpr h))) (m_trace_none ht i (Or.inr (Int32.not_lt.mpr h)))
  · exact Bst_same H (x_trace_ok H.1 hj ht) (m_trace_ok ht hj)
theorem s_count (H : (IX σ lf fd rl rn ri tp len r dd d df nx kp da di tr bo ne a1 a2 a3 a4 a5 a6 a7 a8 a9 i4 i5 i6 i10)) (w : Int32) : Bst G z yX5_count cX5_count 2 3 yX6_count cX6_count 6 3 [.int w] σ := by
  have hN := H.2.2.2.2.2.2.2.1.n
  rcases in_c w (lo := 0) (hi := 6) (by decide) (by decide) with h | h | ⟨j, _, hj, rfl⟩
  · have e : w.toInt < 0 ∨ 6 < w.toInt := Or.inl (by have := ti_lt.mp h; rw [nI_toInt (by decide)] at this; omega)
    exact Bst_same H (x_count_bad H.1 w e) (m_count_bad w e)
  · have e : w.toInt < 0 ∨ 6 < w.toInt := Or.inr (by have := ti_lt.mp h; rw [nI_toInt (by decide)] at this; omega)
    exact Bst_same H (x_count_bad H.1 w e) (m_count_bad w e)
  · have hm := fun (v : Int32) (hv : cntM (sN d) (encG d) a5 (nI kp) (nI len) j = v) => hv ▸ m_count (G := G) (z := z) (σ := σ) (a0 := encG d) (a1 := a1) (a2 := a2) (a3 := a3) (a4 := a4) (a5 := a5) (a6 := a6) (a7 := a7) (a8 := a8) (a9 := a9) (a10 := ne) (a11 := bo) (i0 := nI kp) (i1 := fd) (i2 := lf) (i3 := nI len) (i4 := i4) (i5 := i5) (i6 := i6) (i7 := r.2.2.2.1) (i8 := r.2.2.2.2.2) (i9 := r.2.2.2.2.1) (i10 := i10) (i11 := nI tr) (encG_n d) hN hj
    rcases (show j = 0 ∨ j = 1 ∨ j = 2 ∨ j = 3 ∨ j = 4 ∨ j = 5 ∨ j = 6 by omega) with e | e | e | e | e | e | e
    · subst e
      exact Bst_same H (x_count_0 H.1) (hm _ (by rw [cS_R H.2.2.1 8 (Nat.le_refl 8)]; rfl))
    · subst e
      exact Bst_same H (x_count_1 H.1) (hm _ rfl)
    · subst e
      refine Bst_same H (x_count_2 H.1 hN) (hm _ ?_)
      show nI (cP (fun j => encG d (40 + j)) 49) = _
      rcases H.2.2.2.2.2.2.2.1.c with ok | ⟨h0, hg, _⟩
      · rw [ok.g, cP_enc hN]
      · rw [hg, h0, cP_0]; rfl
    · subst e
      refine Bst_same H (x_count_3 H.1) (hm _ ?_)
      show encG d 3 = _
      rcases H.2.2.2.2.2.2.2.1.c with ok | ⟨h0, hg, hq⟩
      · rw [ok.g, enc_q]
      · rw [hg, hq]
    · subst e
      exact Bst_same H (x_count_4 H.1) (hm _ rfl)
    · subst e
      refine Bst_same H (x_count_5 H.1 hN) (hm _ ?_)
      show sumR (fun p => encG d (4 + p)) (sN d) = _
      rcases H.2.2.2.2.2.2.2.1.c with ok | ⟨h0, hg, hq⟩
      · rw [ok.g]
        exact sumR_ext (fun k hk => enc_c hN hk)
      · rw [h0]; rfl
    · subst e
      exact Bst_same H (x_count_6 H.1) (hm _ rfl)

theorem s_ask (H : (IX σ lf fd rl rn ri tp len r dd d df nx kp da di tr bo ne a1 a2 a3 a4 a5 a6 a7 a8 a9 i4 i5 i6 i10)) (a w : Int32) : Bst G z yX5_ask cX5_ask 3 9 yX6_ask cX6_ask 4 9 [.int a, .int w] σ := by
  have hN := H.2.2.2.2.2.2.2.1.n
  rcases np_c a hN with h | ⟨p, hp, rfl⟩
  · exact Bst_same H (x_ask_bad H.1 a w (Or.inl h)) (m_ask_bad (encG_n d) hN a w (Or.inl h))
  · have ok := H.2.2.2.2.2.2.2.1.ok hp
    obtain ⟨kd, k1, k2, ek⟩ := kindI_k (sD d) (sF d) (sN d) (sU d) p
    rcases in_c w (lo := 0) (hi := 1) (by decide) (by decide) with h | h | ⟨v, _, hv, rfl⟩
    · exact Bst_same H (x_ask_bad H.1 (nI p) w (Or.inr (Or.inl h))) (m_ask_bad (encG_n d) hN (nI p) w (Or.inr (Or.inl h)))
    · exact Bst_same H (x_ask_bad H.1 (nI p) w (Or.inr (Or.inr h))) (m_ask_bad (encG_n d) hN (nI p) w (Or.inr (Or.inr h)))
    · rcases (show v = 0 ∨ v = 1 by omega) with e | e
      · subst e
        rcases (show kd = 1 ∨ kd = 2 ∨ kd = 3 ∨ kd = 4 ∨ kd = 5 by omega) with e | e | e | e | e
        · subst e
          exact Bst_mk H (akH σ (apB bo 0 [11, 10, 21, 20]) 4) lf fd rl rn ri tp len r dd d df nx kp da di 4 (apB bo 0 [11, 10, 21, 20]) ne a1 a2 a3 a4 a5 a6 a7 a8 a9 i4 i5 i6 i10 (x_ask_1_0 H.1 hN hp ok.2.2.1 ok.2.2.2.1 ek) (fun q h1 h2 => (ups_x (by omega)).trans (ups_x (by omega))) ((H.1.bods _).asks 4) ⟨H.2.2.1, H.2.2.2.1, H.2.2.2.2.1, H.2.2.2.2.2.1, H.2.2.2.2.2.2.1, H.2.2.2.2.2.2.2.1, H.2.2.2.2.2.2.2.2.1, H.2.2.2.2.2.2.2.2.2.1, by decide⟩ (by rw [ok.g]; exact m_ask_1_0 hN hp ok.2.2.1 ok.2.2.2.1 (ok.z hp) ek)
        · subst e
          exact Bst_mk H (akH σ (apB bo 0 [11, 10, 22, 21, 20]) 5) lf fd rl rn ri tp len r dd d df nx kp da di 5 (apB bo 0 [11, 10, 22, 21, 20]) ne a1 a2 a3 a4 a5 a6 a7 a8 a9 i4 i5 i6 i10 (x_ask_2_0 H.1 hN hp ok.2.2.1 ok.2.2.2.1 ek) (fun q h1 h2 => (ups_x (by omega)).trans (ups_x (by omega))) ((H.1.bods _).asks 5) ⟨H.2.2.1, H.2.2.2.1, H.2.2.2.2.1, H.2.2.2.2.2.1, H.2.2.2.2.2.2.1, H.2.2.2.2.2.2.2.1, H.2.2.2.2.2.2.2.2.1, H.2.2.2.2.2.2.2.2.2.1, by decide⟩ (by rw [ok.g]; exact m_ask_2_0 hN hp ok.2.2.1 ok.2.2.2.1 (ok.z hp) ek)
        · subst e
          exact Bst_mk H (akH σ (apB bo 0 [12, 11, 10, 24, 22, 21, 20]) 7) lf fd rl rn ri tp len r dd d df nx kp da di 7 (apB bo 0 [12, 11, 10, 24, 22, 21, 20]) ne a1 a2 a3 a4 a5 a6 a7 a8 a9 i4 i5 i6 i10 (x_ask_3_0 H.1 hN hp ok.2.2.1 ok.2.2.2.1 ek) (fun q h1 h2 => (ups_x (by omega)).trans (ups_x (by omega))) ((H.1.bods _).asks 7) ⟨H.2.2.1, H.2.2.2.1, H.2.2.2.2.1, H.2.2.2.2.2.1, H.2.2.2.2.2.2.1, H.2.2.2.2.2.2.2.1, H.2.2.2.2.2.2.2.2.1, H.2.2.2.2.2.2.2.2.2.1, by decide⟩ (by rw [ok.g]; exact m_ask_3_0 hN hp ok.2.2.1 ok.2.2.2.1 (ok.z hp) ek)
        · subst e
          exact Bst_mk H (akH σ (apB bo 0 [13, 10]) 2) lf fd rl rn ri tp len r dd d df nx kp da di 2 (apB bo 0 [13, 10]) ne a1 a2 a3 a4 a5 a6 a7 a8 a9 i4 i5 i6 i10 (x_ask_4_0 H.1 hN hp ok.2.2.1 ok.2.2.2.1 ek) (fun q h1 h2 => (ups_x (by omega)).trans (ups_x (by omega))) ((H.1.bods _).asks 2) ⟨H.2.2.1, H.2.2.2.1, H.2.2.2.2.1, H.2.2.2.2.2.1, H.2.2.2.2.2.2.1, H.2.2.2.2.2.2.2.1, H.2.2.2.2.2.2.2.2.1, H.2.2.2.2.2.2.2.2.2.1, by decide⟩ (by rw [ok.g]; exact m_ask_4_0 hN hp ok.2.2.1 ok.2.2.2.1 (ok.z hp) ek)
        · subst e
          exact Bst_mk H (akH σ (apB bo 0 [14, 13, 10]) 3) lf fd rl rn ri tp len r dd d df nx kp da di 3 (apB bo 0 [14, 13, 10]) ne a1 a2 a3 a4 a5 a6 a7 a8 a9 i4 i5 i6 i10 (x_ask_5_0 H.1 hN hp ok.2.2.1 ok.2.2.2.1 ek) (fun q h1 h2 => (ups_x (by omega)).trans (ups_x (by omega))) ((H.1.bods _).asks 3) ⟨H.2.2.1, H.2.2.2.1, H.2.2.2.2.1, H.2.2.2.2.2.1, H.2.2.2.2.2.2.1, H.2.2.2.2.2.2.2.1, H.2.2.2.2.2.2.2.2.1, H.2.2.2.2.2.2.2.2.2.1, by decide⟩ (by rw [ok.g]; exact m_ask_5_0 hN hp ok.2.2.1 ok.2.2.2.1 (ok.z hp) ek)
      · subst e
        rcases (show kd = 1 ∨ kd = 2 ∨ kd = 3 ∨ kd = 4 ∨ kd = 5 by omega) with e | e | e | e | e
        · subst e
          exact Bst_mk H (akH σ (apB bo 0 [21, 20]) 2) lf fd rl rn ri tp len r dd d df nx kp da di 2 (apB bo 0 [21, 20]) ne a1 a2 a3 a4 a5 a6 a7 a8 a9 i4 i5 i6 i10 (x_ask_1_1 H.1 hN hp ok.2.2.1 ok.2.2.2.1 ek) (fun q h1 h2 => (ups_x (by omega)).trans (ups_x (by omega))) ((H.1.bods _).asks 2) ⟨H.2.2.1, H.2.2.2.1, H.2.2.2.2.1, H.2.2.2.2.2.1, H.2.2.2.2.2.2.1, H.2.2.2.2.2.2.2.1, H.2.2.2.2.2.2.2.2.1, H.2.2.2.2.2.2.2.2.2.1, by decide⟩ (by rw [ok.g]; exact m_ask_1_1 hN hp ok.2.2.1 ok.2.2.2.1 (ok.z hp) ek)
        · subst e
          exact Bst_mk H (akH σ (apB bo 0 [22, 21, 20]) 3) lf fd rl rn ri tp len r dd d df nx kp da di 3 (apB bo 0 [22, 21, 20]) ne a1 a2 a3 a4 a5 a6 a7 a8 a9 i4 i5 i6 i10 (x_ask_2_1 H.1 hN hp ok.2.2.1 ok.2.2.2.1 ek) (fun q h1 h2 => (ups_x (by omega)).trans (ups_x (by omega))) ((H.1.bods _).asks 3) ⟨H.2.2.1, H.2.2.2.1, H.2.2.2.2.1, H.2.2.2.2.2.1, H.2.2.2.2.2.2.1, H.2.2.2.2.2.2.2.1, H.2.2.2.2.2.2.2.2.1, H.2.2.2.2.2.2.2.2.2.1, by decide⟩ (by rw [ok.g]; exact m_ask_2_1 hN hp ok.2.2.1 ok.2.2.2.1 (ok.z hp) ek)
        · subst e
          exact Bst_mk H (akH σ (apB bo 0 [24, 22, 21, 20]) 4) lf fd rl rn ri tp len r dd d df nx kp da di 4 (apB bo 0 [24, 22, 21, 20]) ne a1 a2 a3 a4 a5 a6 a7 a8 a9 i4 i5 i6 i10 (x_ask_3_1 H.1 hN hp ok.2.2.1 ok.2.2.2.1 ek) (fun q h1 h2 => (ups_x (by omega)).trans (ups_x (by omega))) ((H.1.bods _).asks 4) ⟨H.2.2.1, H.2.2.2.1, H.2.2.2.2.1, H.2.2.2.2.2.1, H.2.2.2.2.2.2.1, H.2.2.2.2.2.2.2.1, H.2.2.2.2.2.2.2.2.1, H.2.2.2.2.2.2.2.2.2.1, by decide⟩ (by rw [ok.g]; exact m_ask_3_1 hN hp ok.2.2.1 ok.2.2.2.1 (ok.z hp) ek)
        · subst e
          exact Bst_mk H (akH σ (apB bo 0 [23, 20, 13, 10]) 4) lf fd rl rn ri tp len r dd d df nx kp da di 4 (apB bo 0 [23, 20, 13, 10]) ne a1 a2 a3 a4 a5 a6 a7 a8 a9 i4 i5 i6 i10 (x_ask_4_1 H.1 hN hp ok.2.2.1 ok.2.2.2.1 ek) (fun q h1 h2 => (ups_x (by omega)).trans (ups_x (by omega))) ((H.1.bods _).asks 4) ⟨H.2.2.1, H.2.2.2.1, H.2.2.2.2.1, H.2.2.2.2.2.1, H.2.2.2.2.2.2.1, H.2.2.2.2.2.2.2.1, H.2.2.2.2.2.2.2.2.1, H.2.2.2.2.2.2.2.2.2.1, by decide⟩ (by rw [ok.g]; exact m_ask_4_1 hN hp ok.2.2.1 ok.2.2.2.1 (ok.z hp) ek)
        · subst e
          exact Bst_mk H (akH σ (apB bo 0 [23, 20, 14, 13, 10]) 5) lf fd rl rn ri tp len r dd d df nx kp da di 5 (apB bo 0 [23, 20, 14, 13, 10]) ne a1 a2 a3 a4 a5 a6 a7 a8 a9 i4 i5 i6 i10 (x_ask_5_1 H.1 hN hp ok.2.2.1 ok.2.2.2.1 ek) (fun q h1 h2 => (ups_x (by omega)).trans (ups_x (by omega))) ((H.1.bods _).asks 5) ⟨H.2.2.1, H.2.2.2.1, H.2.2.2.2.1, H.2.2.2.2.2.1, H.2.2.2.2.2.2.1, H.2.2.2.2.2.2.2.1, H.2.2.2.2.2.2.2.2.1, H.2.2.2.2.2.2.2.2.2.1, by decide⟩ (by rw [ok.g]; exact m_ask_5_1 hN hp ok.2.2.1 ok.2.2.2.1 (ok.z hp) ek)
end S2

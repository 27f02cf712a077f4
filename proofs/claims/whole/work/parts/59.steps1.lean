/-! ONE CALL OF BOTH: rows, the tape, a town -/
theorem rowR.upd {rl rn : Nat → Int32} {ri : Nat → Nat → Int32} {a5 a6 a7 : Nat → Int32} (h : rowR rl rn ri a5 a6 a7) {k : Nat} {L Nn : Int32} {it b5 b6 b7 : Nat → Int32} (h5 : ∀ q, q ≠ k → b5 q = a5 q) (h6 : ∀ q, q ≠ k → b6 q = a6 q) (h7 : ∀ q, q < 40 * k ∨ 40 * k + 40 ≤ q → b7 q = a7 q) (hn : (L = -1 ∧ b5 k = -1) ∨ (∃ la m, la < 3 ∧ m ≤ 40 ∧ L = nI la ∧ Nn = nI m ∧ b5 k = nI m ∧ b6 k = nI la ∧ ∀ j, j < m → it j = b7 (40 * k + j))) : rowR (va_up rl k L) (va_up rn k Nn) (va_up ri k it) b5 b6 b7 := by
  intro q hq
  by_cases e : q = k
  · subst e
    rw [va_up_a, va_up_a, va_up_a]
    exact hn
  · rw [va_up_x e, va_up_x e, va_up_x e, h5 q e, h6 q e]
    rcases h q hq with w | ⟨la, m, hla, hm, e1, e2, e3, e4, e5⟩
    · exact Or.inl w
    · exact Or.inr ⟨la, m, hla, hm, e1, e2, e3, e4, fun j hj => (e5 j hj).trans (h7 _ (by omega)).symm⟩
theorem rdF_upd {len x : Nat} {r : RS} : upd (rdF len r) 0 (nI x) = rdF x r := by
  funext k
  match k with
  | 0 => exact pk_us
  | 1 => exact pk_un (by decide)
  | 2 => exact pk_un (by decide)
  | 3 => exact pk_un (by decide)
  | 4 => exact pk_un (by decide)
  | 5 => exact pk_un (by decide)
  | k + 6 => exact pk_un (by omega)
theorem b_ti (x : Int32) : -128 ≤ x.toInt8.toInt32.toInt ∧ x.toInt8.toInt32.toInt ≤ 127 := by
  rw [Int8.toInt_toInt32]
  have h1 := Int8.le_toInt x.toInt8
  have h2 := Int8.toInt_lt x.toInt8
  omega
theorem fdT_b {w : Int64} {m len : Nat} {tp : Nat → Int32} (h : bOK tp) : ∀ k, bOK (fdT w m len tp k)
  | 0 => h
  | k + 1 => fun j => by
    show -128 ≤ (upd (fdT w m len tp k) (len + k) ((fdB w (m - 1 - k)).toInt8.toInt32) j).toInt ∧ (upd (fdT w m len tp k) (len + k) ((fdB w (m - 1 - k)).toInt8.toInt32) j).toInt ≤ 127
    by_cases e : j = len + k
    · rw [e, pk_us]; exact b_ti _
    · rw [pk_un e]; exact fdT_b h k j
section S1
variable {G : GG} {z : Nat} {σ : AH} {lf fd : Int32} {rl rn : Nat → Int32} {ri : Nat → Nat → Int32} {tp : Nat → Int32} {len : Nat} {r : RS} {dd d df : TS} {nx kp : Nat} {da di : Nat → TS} {tr : Nat} {bo ne a1 a2 a3 a4 a5 a6 a7 a8 a9 : Nat → Int32} {i4 i5 i6 i10 : Int32}
theorem s_row (H : (IX σ lf fd rl rn ri tp len r dd d df nx kp da di tr bo ne a1 a2 a3 a4 a5 a6 a7 a8 a9 i4 i5 i6 i10)) (a b c : Int32) : Bst G z yX5_row cX5_row 4 3 yX6_row cX6_row 5 3 [.int a, .int b, .int c] σ := by
  rcases nr_c a with h | ⟨k, hk, rfl⟩
  · exact Bst_same H (x_row_bad a b c (Or.inl h)) (m_row_bad a b c (Or.inl h))
  · rcases in_c b (lo := 0) (hi := 2) (by decide) (by decide) with h | h | ⟨la, _, hla, rfl⟩
    · exact Bst_same H (x_row_bad (nI k) b c (Or.inr (Or.inl h))) (m_row_bad (nI k) b c (Or.inr (Or.inl h)))
    · exact Bst_same H (x_row_bad (nI k) b c (Or.inr (Or.inr (Or.inl h)))) (m_row_bad (nI k) b c (Or.inr (Or.inr (Or.inl h))))
    · rcases in_c c (lo := 0) (hi := 40) (by decide) (by decide) with h | h | ⟨m, _, hm, rfl⟩
      · exact Bst_find H (nI 4) (x_row_size H.1 c hk (by omega) h) (m_row_size c hk (by omega) h)
      · exact Bst_same H (x_row_bad (nI k) (nI la) c (Or.inr (Or.inr (Or.inr h)))) (m_row_bad (nI k) (nI la) c (Or.inr (Or.inr (Or.inr h))))
      · refine Bst_mk H (ups (rw' σ (2 + 2 * k) (fil (nI 0) (ri k) m) (nI la) (nI m)) 0 (xO lf (nI 0))) lf (nI 0) (va_up rl k (nI la)) (va_up rn k (nI m)) (va_up ri k (fil (nI 0) (ri k) m)) tp len r dd d df nx kp da di tr bo ne a1 a2 a3 a4 (upd a5 k (nI m)) (upd a6 k (nI la)) (va_cpy (fun _ => nI 0) a7 0 (40 * k) 40) a8 a9 i4 i5 i6 i10 (x_row_ok H.1 hk (by omega) hm) (fun q h1 h2 => (ups_x (by omega)).trans (rw_x (by omega))) ((H.1.row k hk _ _ _).obj lf (nI 0)) ⟨?_, H.2.2.2⟩ (m_row_ok hk (by omega) hm)
        exact H.2.2.1.upd (fun q e => pk_un e) (fun q e => pk_un e) (fun q e => pk_cpy_out e) (Or.inr ⟨la, m, by omega, hm, rfl, rfl, pk_us, pk_us, fun j hj => by rw [fil_at, if_pos hj, pk_cpy_in (by omega) (by omega)]⟩)
theorem s_set (H : (IX σ lf fd rl rn ri tp len r dd d df nx kp da di tr bo ne a1 a2 a3 a4 a5 a6 a7 a8 a9 i4 i5 i6 i10)) (a b c : Int32) : Bst G z yX5_set cX5_set 5 3 yX6_set cX6_set 4 3 [.int a, .int b, .int c] σ := by
  rcases nr_c a with h | ⟨k, hk, rfl⟩
  · exact Bst_same H (x_set_bad a b c h) (m_set_bad a b c h)
  · rcases H.2.2.1 k hk with ⟨e1, e2⟩ | ⟨la, m, hla, hm, e1, e2, e3, e4, e5⟩
    · exact Bst_find H (nI 1) (x_set_null H.1 b c hk e1) (m_set_null b c hk e2)
    · have hl : ¬ rl k = -1 := by rw [e1]; exact nI_m1 (by omega)
      rcases rng_c b (nI 1) hm with q | ⟨j, q1, rfl, hq1, hle, q⟩
      · exact Bst_find H (nI 2) (x_set_place H.1 b c hk hl (by rw [e2]; exact q)) (m_set_place b c hk e3 hm q)
      · have : 1 = q1 := (nI_eq (by omega) (by omega)).mp hq1
        refine Bst_mk H (ups (rw' σ (2 + 2 * k) (upd (ri k) j (putI (rl k) c)) (rl k) (rn k)) 0 (xO lf (nI 0))) lf (nI 0) (va_up rl k (rl k)) (va_up rn k (rn k)) (va_up ri k (upd (ri k) j (putI (rl k) c))) tp len r dd d df nx kp da di tr bo ne a1 a2 a3 a4 a5 a6 (upd a7 (40 * k + j) (putI (nI la) c)) a8 a9 i4 i5 i6 i10 (x_set_ok H.1 c hk hl (by rw [e2]; exact q) (by omega)) (fun q h1 h2 => (ups_x (by omega)).trans (rw_x (by omega))) ((H.1.row k hk _ _ _).obj lf (nI 0)) ⟨?_, H.2.2.2⟩ (by rw [e1]; exact m_set_ok c hk e3 hm hla e4 (by omega))
        refine H.2.2.1.upd (fun q e => rfl) (fun q e => rfl) (fun q e => pk_un (by omega)) (Or.inr ⟨la, m, hla, hm, e1, e2, e3, e4, fun t ht => ?_⟩)
        by_cases e : t = j
        · rw [e, pk_us, pk_us, e1]
        · rw [pk_un e, pk_un (by omega)]; exact e5 t ht
theorem s_copy (H : (IX σ lf fd rl rn ri tp len r dd d df nx kp da di tr bo ne a1 a2 a3 a4 a5 a6 a7 a8 a9 i4 i5 i6 i10)) (a b c e n : Int32) : Bst G z yX5_copy cX5_copy 8 3 yX6_copy cX6_copy 9 3 [.int a, .int b, .int c, .int e, .int n] σ := by
  rcases nr_c a with h | ⟨x, hx, rfl⟩
  · exact Bst_same H (x_copy_bad a b c e n (Or.inl h)) (m_copy_bad a b c e n (Or.inl h))
  · rcases nr_c c with h | ⟨y, hy, rfl⟩
    · exact Bst_same H (x_copy_bad (nI x) b c e n (Or.inr h)) (m_copy_bad (nI x) b c e n (Or.inr h))
    · rcases H.2.2.1 x hx with ⟨e1, e2⟩ | ⟨la, m, hla, hm, e1, e2, e3, e4, e5⟩
      · exact Bst_find H (nI 1) (x_copy_null H.1 b e n hx hy (Or.inl e1)) (m_copy_null b e n hx hy (Or.inl e2))
      · rcases H.2.2.1 y hy with ⟨f1, f2⟩ | ⟨lb, m2, hlb, hm2, f1, f2, f3, f4, f5⟩
        · exact Bst_find H (nI 1) (x_copy_null H.1 b e n hx hy (Or.inr f1)) (m_copy_null b e n hx hy (Or.inr f2))
        · have hl1 : ¬ rl x = -1 := by rw [e1]; exact nI_m1 (by omega)
          have hl2 : ¬ rl y = -1 := by rw [f1]; exact nI_m1 (by omega)
          by_cases hq : rl x = rl y
          · have hq6 : a6 x = a6 y := by rw [e4, f4, ← e1, ← f1]; exact hq
            rcases rng_c b n hm with q | ⟨i, n1, rfl, rfl, hle, q⟩
            · exact Bst_find H (nI 2) (x_copy_place H.1 b e n hx hy hl1 hl2 hq (Or.inl (by rw [e2]; exact q))) (m_copy_place b e n hx hy e3 f3 hm hm2 hq6 (Or.inl q))
            · rcases rng_c e (nI n1) hm2 with q2 | ⟨j, n2, rfl, hn2, hle2, q2⟩
              · exact Bst_find H (nI 2) (x_copy_place H.1 (nI i) e (nI n1) hx hy hl1 hl2 hq (Or.inr (by rw [f2]; exact q2))) (m_copy_place (nI i) e (nI n1) hx hy e3 f3 hm hm2 hq6 (Or.inr q2))
              · have : n1 = n2 := (nI_eq (by omega) (by omega)).mp hn2
                subst this
                refine Bst_mk H (ups (rw' σ (2 + 2 * y) (va_cpy (ri x) (ri y) i j n1) (rl y) (rn y)) 0 (xO lf (nI 0))) lf (nI 0) (va_up rl y (rl y)) (va_up rn y (rn y)) (va_up ri y (va_cpy (ri x) (ri y) i j n1)) tp len r dd d df nx kp da di tr bo ne a1 a2 a3 a4 a5 a6 (va_cpy a7 a7 (40 * x + i) (40 * y + j) n1) a8 a9 i4 i5 i6 i10 (x_copy_ok H.1 hx hy hl1 hl2 hq (by rw [e2]; exact q) (by rw [f2]; exact q2) (by omega) (by omega)) (fun q h1 h2 => (ups_x (by omega)).trans (rw_x (by omega))) ((H.1.row y hy _ _ _).obj lf (nI 0)) ⟨?_, H.2.2.2⟩ (m_copy_ok hx hy e3 f3 hm hm2 hq6 hle hle2)
                refine H.2.2.1.upd (fun q e => rfl) (fun q e => rfl) (fun q e => pk_cpy_out (by omega)) (Or.inr ⟨lb, m2, hlb, hm2, f1, f2, f3, f4, fun t ht => ?_⟩)
                by_cases w : j ≤ t ∧ t < j + n1
                · rw [pk_cpy_in w.1 w.2, pk_cpy_in (by omega) (by omega), e5 _ (by omega)]
                  exact congrArg a7 (by omega)
                · rw [pk_cpy_out (by omega), pk_cpy_out (by omega)]; exact f5 t ht
          · exact Bst_find H (nI 5) (x_copy_store H.1 b e n hx hy hl1 hl2 hq) (m_copy_store b e n hx hy e3 f3 hm hm2 (by rw [e4, f4, ← e1, ← f1]; exact hq))
theorem s_drop (H : (IX σ lf fd rl rn ri tp len r dd d df nx kp da di tr bo ne a1 a2 a3 a4 a5 a6 a7 a8 a9 i4 i5 i6 i10)) (a : Int32) : Bst G z yX5_drop cX5_drop 4 3 yX6_drop cX6_drop 3 3 [.int a] σ := by
  rcases nr_c a with h | ⟨k, hk, rfl⟩
  · exact Bst_same H (x_drop_bad a h) (m_drop_bad a h)
  · rcases H.2.2.1 k hk with ⟨e1, e2⟩ | ⟨la, m, hla, hm, e1, e2, e3, e4, e5⟩
    · exact Bst_find H (nI 1) (x_drop_null H.1 hk e1) (m_drop_null hk e2)
    · have hl : ¬ rl k = -1 := by rw [e1]; exact nI_m1 (by omega)
      refine Bst_mk H (ups (rw' σ (2 + 2 * k) (ri k) (-1) (nI 0)) 0 (xO lf (nI 0))) lf (nI 0) (va_up rl k (-1)) (va_up rn k (nI 0)) (va_up ri k (ri k)) tp len r dd d df nx kp da di tr bo ne a1 a2 a3 a4 (upd a5 k (-1)) a6 a7 a8 a9 i4 i5 i6 i10 (x_drop_ok H.1 hk hl) (fun q h1 h2 => (ups_x (by omega)).trans (rw_x (by omega))) ((H.1.row k hk _ _ _).obj lf (nI 0)) ⟨?_, H.2.2.2⟩ (by rw [e2]; exact m_drop_ok hk e3 hm)
      exact H.2.2.1.upd (fun q e => pk_un e) (fun q e => rfl) (fun q e => rfl) (Or.inl ⟨rfl, pk_us⟩)
theorem s_fault (H : (IX σ lf fd rl rn ri tp len r dd d df nx kp da di tr bo ne a1 a2 a3 a4 a5 a6 a7 a8 a9 i4 i5 i6 i10)) : Bst G z yX5_fault cX5_fault 1 1 yX6_fault cX6_fault 1 1 [] σ := Bst_same H (x_fault H.1) m_fault
theorem s_status (H : (IX σ lf fd rl rn ri tp len r dd d df nx kp da di tr bo ne a1 a2 a3 a4 a5 a6 a7 a8 a9 i4 i5 i6 i10)) : Bst G z yX5_status cX5_status 1 1 yX6_status cX6_status 1 1 [] σ := Bst_same H (x_status H.1) m_status
theorem s_feed (H : (IX σ lf fd rl rn ri tp len r dd d df nx kp da di tr bo ne a1 a2 a3 a4 a5 a6 a7 a8 a9 i4 i5 i6 i10)) (w : Int64) (n : Int32) : Bst G z yX5_feed cX5_feed 5 1 yX6_feed cX6_feed 5 2 [.long w, .int n] σ := by
  rcases in_c n (lo := 1) (hi := 8) (by decide) (by decide) with h | h | ⟨m, h1, h2, rfl⟩
  · exact Bst_same H (x_feed_bad w n (Or.inl h)) (m_feed_bad w n (Or.inl h))
  · exact Bst_same H (x_feed_bad w n (Or.inr h)) (m_feed_bad w n (Or.inr h))
  · by_cases h : 400 < len + m
    · exact Bst_same H (x_feed_full H.1 w rfl h1 h2 H.2.2.2.2.1 h) (m_feed_full w h1 h2 H.2.2.2.2.1 h)
    · have h5 : Ct G yX5_feed cX5_feed 5 (some .int) 1 0 0 z σ [.ref 0, .long w, .int (nI m)] (some (.int (nI (len + m)))) z (ups (ups σ 19 (.inl (1, 400, fdT w m len tp m))) 18 (xR (rdF (len + m) r))) := by
        rw [← rdF_upd (len := len)]
        exact x_feed_ok H.1 w rfl h1 h2 (by omega)
      exact Bst_mk H (ups (ups σ 19 (.inl (1, 400, fdT w m len tp m))) 18 (xR (rdF (len + m) r))) lf fd rl rn ri (fdT w m len tp m) (len + m) r dd d df nx kp da di tr bo ne a1 a2 a3 a4 a5 a6 a7 (fdM w m len a8 m) a9 i4 i5 i6 i10 h5 (fun q h1 h2 => (ups_x (by omega)).trans (ups_x (by omega))) ((H.1.tape _).rdr _) ⟨H.2.2.1, ⟨fdT_b H.2.2.2.1.1 m, fun j => fdM_ub H.2.2.2.1.2 m j⟩, by omega, H.2.2.2.2.2⟩ (m_feed_ok w h1 h2 (by omega))
theorem s_town (H : (IX σ lf fd rl rn ri tp len r dd d df nx kp da di tr bo ne a1 a2 a3 a4 a5 a6 a7 a8 a9 i4 i5 i6 i10)) : Bst G z yX5_town cX5_town 2 10 yX6_town cX6_town 3 10 [] σ := by
  have hT := H.2.2.2.1
  have hl := H.2.2.2.2.1
  have hs := H.2.2.2.2.2.1
  have hi := H.2.2.2.2.2.2.1
  have hs2 : sOK (rTown tp len r dd).2.1 := by rw [(rTown_o tp len r dd).2]; exact tOut_s
  have hi2 : incOK (rTown tp len r dd).2.2 := inc_town hi
  cases h : (rTown tp len r dd).1 with
  | false =>
    exact Bst_mk H (ups (RHr σ 0 (rTown tp len r dd).2.1 (rTown tp len r dd).2.2) 0 (xO (rTown tp len r dd).2.1.2.2.2.2.2 fd)) ((rTown tp len r dd).2.1.2.2.2.2.2) fd rl rn ri tp 0 ((rTown tp len r dd).2.1) ((rTown tp len r dd).2.2) d df nx kp da di tr bo ne (townG tp len r dd) a2 a3 a4 a5 a6 a7 a8 a9 (nI (rTown tp len r dd).2.1.2.2.1) (nI (rTown tp len r dd).2.1.2.1) (nI (tokR tp (rTown tp len r dd).2.1)) i10 (x_town_bad H.1 hs hl h) (fun q h1 h2 => (ups_x (by omega)).trans ((ups_x (by omega)).trans (twS_x (by omega)))) (((H.1.draft (rTown tp len r dd).2.2).rdr (rdF 0 (rTown tp len r dd).2.1)).obj (rTown tp len r dd).2.1.2.2.2.2.2 fd) ⟨H.2.2.1, hT, Nat.zero_le _, hs2, hi2, H.2.2.2.2.2.2.2⟩ (m_town_bad hT.1 hT.2 hl h)
  | true =>
    obtain ⟨k1, k2⟩ := rTown_ok hi h
    exact Bst_mk H (ups (twS (RHr σ 0 (rTown tp len r dd).2.1 (rTown tp len r dd).2.2) 25 (rTown tp len r dd).2.2) 35 (xA 0 0)) lf fd rl rn ri tp 0 ((rTown tp len r dd).2.1) ((rTown tp len r dd).2.2) ((rTown tp len r dd).2.2) df 0 0 da di tr bo ne (townG tp len r dd) a2 a3 a4 a5 a6 a7 a8 a9 (nI (rTown tp len r dd).2.1.2.2.1) (nI (rTown tp len r dd).2.1.2.1) (nI (tokR tp (rTown tp len r dd).2.1)) i10 (x_town_ok H.1 hs hl h) (fun q h1 h2 => (ups_x (by omega)).trans ((twS_x (by omega)).trans ((ups_x (by omega)).trans (twS_x (by omega))))) ((((H.1.draft (rTown tp len r dd).2.2).rdr (rdF 0 (rTown tp len r dd).2.1)).town (rTown tp len r dd).2.2).acts 0 0) ⟨H.2.2.1, hT, Nat.zero_le _, hs2, hi2, Or.inl k1, actR.none, H.2.2.2.2.2.2.2.2.2⟩ (m_town_ok hT.1 hT.2 hl h (encG (rTown tp len r dd).2.2) (by rw [k1.g]; exact k2) (encG_n _))
end S1

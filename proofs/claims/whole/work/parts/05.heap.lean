/-! ROWS OF J over the heap -/
def ups (σ : AH) (a : Nat) (e : AE) : AH := fun k => if k = a then some e else σ k
theorem Wc.at {G : GG} {z : Nat} {σ : AH} {H : Heap} (h : Wc G z σ H) {a : Nat} {e : AE} (he : σ a = some e) : va_at (DG G) classes (ad G a, cE G e) H ∧ ad G a = G.1 + a := by
  obtain ⟨h1, h2, h3⟩ := h
  obtain ⟨h4, h5⟩ := h3 a e he
  have h6 : ad G a = G.1 + a := ad_lt (Nat.lt_of_lt_of_le h4 h2)
  rw [h6]
  exact ⟨h5, rfl⟩
theorem Wc.one {G : GG} {z : Nat} {σ : AH} {H : Heap} (h : Wc G z σ H) {a : Nat} {e : AE} (he : σ a = some e) : va_P (DG G) classes [(ad G a, cE G e)] H := by
  intro k q hk
  match k, hk with
  | 0, hk => cases hk; exact (h.at he).1
/-- one cell is another one now -/
theorem Wc.put {G : GG} {z : Nat} {σ : AH} {H H1 : Heap} (h : Wc G z σ H) {a : Nat} {e0 e : AE} (he : σ a = some e0) (hs : H1.size = H.size) (hn : va_at (DG G) classes (ad G a, cE G e) H1) (ho : ∀ q : Nat, q ≠ ad G a → H1[q]? = H[q]?) : Wc G z (ups σ a e) H1 := by
  have ha := (h.at he).2
  refine ⟨by rw [hs]; exact h.1, h.2.1, fun k x hk => ?_⟩
  unfold ups at hk
  by_cases hka : k = a
  · subst hka
    rw [if_pos rfl] at hk
    cases hk
    exact ⟨(h.2.2 k e0 he).1, by rw [← ha]; exact hn⟩
  · rw [if_neg hka] at hk
    obtain ⟨h4, h5⟩ := h.2.2 k x hk
    exact ⟨h4, h5.kept (ho _ (by rw [ha]; show ¬ G.1 + k = G.1 + a; omega))⟩
/-- one cell more -/
theorem Wc.push {G : GG} {z : Nat} {σ : AH} {H H1 : Heap} (h : Wc G z σ H) {e : AE} (hz : z < EXT) (hs : H1.size = H.size + 1) (hn : va_at (DG G) classes (H.size, cE G e) H1) (ho : ∀ q : Nat, q < H.size → H1[q]? = H[q]?) : Wc G (z + 1) (ups σ z e) H1 := by
  refine ⟨by rw [hs, h.1]; omega, by omega, fun k x hk => ?_⟩
  unfold ups at hk
  by_cases hka : k = z
  · subst hka
    rw [if_pos rfl] at hk
    cases hk
    exact ⟨by omega, by rw [← h.1]; exact hn⟩
  · rw [if_neg hka] at hk
    obtain ⟨h4, h5⟩ := h.2.2 k x hk
    exact ⟨by omega, h5.kept (ho _ (by rw [h.1]; show G.1 + k < _; omega))⟩
theorem AG_ad {G : GG} {z : Nat} {σ : AH} {H : Heap} (h : Wc G z σ H) {a : Nat} {e : AE} (he : σ a = some e) : AG G (ad G a) := by
  rw [(h.at he).2]; exact Nat.le_add_right _ _
theorem tysG_at {G : GG} {k : Nat} (h : k < 5) : (tysG G)[k]? = some (G.2.2.2.1 k, tyA k) := by
  match k, h with
  | 0, _ => rfl
  | 1, _ => rfl
  | 2, _ => rfl
  | 3, _ => rfl
  | 4, _ => rfl
section JH
variable {G : GG} {oR : String} {oc : ByteArray} {on : Nat} {ort : Option FieldType} {T : TG} {z kc ks pc : Nat} {σ : AH} {L : List (Option Value)} {st : List Value}
theorem j_getf {ix : Nat} (hd : decode oc pc = .ok (.getfield ix, 3)) (ci k : Nat) {C : String} {TT : u_T} {N : Nat} (hc : classes[ci]? = some (C, TT, N)) (hk : k < N) (hl : Cond.fieldLink oR ix (TT k).1 (TT k).2.1 (TT k).2.2.1 ∈ gw) (hin : ∀ w ∈ u_ws C TT N, w ∈ gw) {a : Nat} {fs : List Value} {v : Value} (he : σ a = some (.inr (.inr (ci, fs)))) (hv : fs[k]? = some v)
    (kk : J G oR oc on ort T z σ kc ks (pc + 3) L (v :: st)) : J G oR oc on ort T z σ kc ks pc L (.ref a :: st) := by
  intro p l e s m args below meth c H locs ls C0 X hw hS hL
  exact va_get (C := C) (T := TT) (N := N) C0.1 C0.2.1 C0.2.2.2.2.2.1 hin C0.2.2.2.2.1 C0.2.2.2.2.2.2.2.1 (hw.one he) 0 rfl hc k hk (C0.2.2.2.2.2.1 _ hl) (fun _ h => h) (v := cV G v) (by rw [List.getElem?_map, hv]; rfl) hd (kk p l e s m args below meth c H locs ls C0 X hw hS hL)
theorem j_putf {ix : Nat} (hd : decode oc pc = .ok (.putfield ix, 3)) (ci k : Nat) {C : String} {TT : u_T} {N : Nat} (hc : classes[ci]? = some (C, TT, N)) (hk : k < N) (hl : Cond.fieldLink oR ix (TT k).1 (TT k).2.1 (TT k).2.2.1 ∈ gw) (hin : ∀ w ∈ u_ws C TT N, w ∈ gw) (ty0 : Nat → FieldType) (hty : ∀ k, k < N → parseFieldDescriptor (TT k).2.2.1 = some (ty0 k)) (hnm : ∀ a, a < N → ∀ b, b < N → a ≠ b → (TT a).2.1 ≠ (TT b).2.1)
    (hfin : (TT k).2.2.2 = false) (hti : ty0 k = .int) {a : Nat} {fs : List Value} {x : Int32} (he : σ a = some (.inr (.inr (ci, fs)))) (hlen : k < fs.length) (σ2 : AH) (h2 : ups σ a (.inr (.inr (ci, fs.set k (.int x)))) = σ2)
    (kk : J G oR oc on ort T z σ2 kc ks (pc + 3) L st) : J G oR oc on ort T z σ kc ks pc L (.int x :: .ref a :: st) := by
  intro p l e s m args below meth c H locs ls C0 X hw hS hL
  subst h2
  obtain ⟨hx, hb, hr, hml, hown, hts, hlk, hK, hg, hB⟩ := id C0
  have hap := va_apart (own := oR) hts hin ty0 hty hnm hK hc
  obtain ⟨r, h1, cell, q1, q2, q3, q4⟩ := (hw.at he).1
  have hr2 : r = (C, TT, N) := Option.some.inj (h1.symm.trans hc)
  subst hr2
  obtain ⟨hSl, hfc, kC, hkC, hkind⟩ := hK.1 ci _ hc
  obtain ⟨cf, kf, fi, f, hi, hsl⟩ := hSl k hk
  have hlay := hts _ (hin _ (u_in_lay hk))
  unfold u_lay at hlay
  rw [if_neg (by rw [hfin]; decide)] at hlay
  have hst := (u_facts hfc hkC (u_lays hts hin hk) hi).1
  have h6 := u_store (v := .int x) hfc hkC hkind hlay hi (hty k hk) (by rw [hti]; rfl) (by rw [hti]; rfl)
  refine W.putK hx hb (f := f) ⟨hown, hts _ hl, ⟨_, _, _, hi⟩, hst⟩ (by rw [q2]; exact h6) q1 q3 (by rw [hsl]; exact k2_hasslot (q4 k hk)) rfl rfl hd fun H' e1 e2 e3 => ?_
  rw [hsl] at e1
  refine kk p l e s m args below meth c H' _ ls C0 X (hw.put he e2 ⟨_, hc, t_OB.to (V := updV (vp_V (fs.map (cV G))) k (.int x)) ⟨_, e1, q2, q3, t_set q4 hap hk (.int x)⟩ (fun j _ => ?_)⟩ e3) (hS.put e2 e3 (AG_ad hw he)) hL
  rw [vp_updV_set (by rw [List.length_map]; exact hlen)]
  show vp_V _ j = vp_V ((fs.set k (.int x)).map (cV G)) j
  rw [List.map_set]
  rfl
theorem j_putF {ix : Nat} (hd : decode oc pc = .ok (.putfield ix, 3)) (ci k : Nat) {C : String} {TT : u_T} {N : Nat} (hc : classes[ci]? = some (C, TT, N)) (hk : k < N) (hl : Cond.fieldLink oR ix (TT k).1 (TT k).2.1 (TT k).2.2.1 ∈ gw) (hin : ∀ w ∈ u_ws C TT N, w ∈ gw) (ty0 : Nat → FieldType) (hty : ∀ k, k < N → parseFieldDescriptor (TT k).2.2.1 = some (ty0 k)) (hnm : ∀ a, a < N → ∀ b, b < N → a ≠ b → (TT a).2.1 ≠ (TT b).2.1)
    (hfin : (TT k).2.2.2 = true) (hdecl : (TT k).1 = oR) (hT : ∀ meth args s, T.2.2 meth args s → meth.name = "<init>") {a b : Nat} {fs : List Value} (hn : ∀ b, narrow (ty0 k) (.ref b) = .ref b) (hf : ∀ b, fits (ty0 k) (.ref b) = true) (he : σ a = some (.inr (.inr (ci, fs)))) (hlen : k < fs.length) (σ2 : AH) (h2 : ups σ a (.inr (.inr (ci, fs.set k (.ref b)))) = σ2)
    (kk : J G oR oc on ort T z σ2 kc ks (pc + 3) L st) : J G oR oc on ort T z σ kc ks pc L (.ref b :: .ref a :: st) := by
  intro p l e s m args below meth c H locs ls C0 X hw hS hL
  subst h2
  obtain ⟨hx, hb, hr, hml, hown, hts, hlk, hK, hg, hB⟩ := id C0
  have hap := va_apart (own := oR) hts hin ty0 hty hnm hK hc
  obtain ⟨r, h1, cell, q1, q2, q3, q4⟩ := (hw.at he).1
  have hr2 : r = (C, TT, N) := Option.some.inj (h1.symm.trans hc)
  subst hr2
  obtain ⟨hSl, hfc, kC, hkC, hkind⟩ := hK.1 ci _ hc
  obtain ⟨cf, kf, fi, f, hi, hsl⟩ := hSl k hk
  have hlay := hts _ (hin _ (u_in_lay hk))
  unfold u_lay at hlay
  rw [if_pos hfin] at hlay
  have hst := (u_facts hfc hkC (u_lays hts hin hk) hi).1
  have hcf : m.cls = cf := by
    obtain ⟨_, _, c', _, _, _, -, -, hf', -, -, -, hown2, -⟩ := Cond.laysFinal_spec hlay
    have e1 : c' = cf := by have := hi.symm.trans hf'; simp at this; exact this.1.symm
    rw [hdecl] at hown2
    rw [← e1]; exact Option.some.inj (hown.symm.trans hown2)
  have h6 := u_fits (v := .ref (ad G b)) hfc hkC hkind (Or.inr hlay) hi (hty k hk) (hn _) (hf _)
  refine W.putFinK hx hb hown (hts _ hl) hi hst hcf (hT _ _ _ X) (by rw [q2]; exact h6) q1 q3 (by rw [hsl]; exact k2_hasslot (q4 k hk)) rfl rfl hd fun H' e1 e2 e3 => ?_
  rw [hsl] at e1
  refine kk p l e s m args below meth c H' _ ls C0 X (hw.put he e2 ⟨_, hc, t_OB.to (V := updV (vp_V (fs.map (cV G))) k (.ref (ad G b))) ⟨_, e1, q2, q3, t_set q4 hap hk (.ref (ad G b))⟩ (fun j _ => ?_)⟩ e3) (hS.put e2 e3 (AG_ad hw he)) hL
  rw [vp_updV_set (by rw [List.length_map]; exact hlen)]
  show vp_V _ j = vp_V ((fs.set k (.ref b)).map (cV G)) j
  rw [List.map_set]
  rfl
theorem j_iald {a n k : Nat} {f : Nat → Int32} {i : Int32} (hd : decode oc pc = .ok (.iaload, 1)) (he : σ a = some (.inl (0, n, f))) (hi : i = nI k) (hk : k < n) (hn : n < 2 ^ 31)
    (kk : J G oR oc on ort T z σ kc ks (pc + 1) L (.int (f k) :: st)) : J G oR oc on ort T z σ kc ks pc L (.int i :: .ref a :: st) := by
  intro p l e s m args below meth c H locs ls C0 X hw hS hL
  subst hi
  refine va_iald C0.1 C0.2.1 C0.2.2.2.2.2.2.2.1 (hw.one he) 0 0 rfl rfl (vp_in_nI hk hn) hd ?_
  rw [nI_clamp (by omega)]
  exact kk p l e s m args below meth c H locs ls C0 X hw hS hL
theorem j_bald {a n k : Nat} {f : Nat → Int32} {i : Int32} (hd : decode oc pc = .ok (.baload, 1)) (he : σ a = some (.inl (1, n, f))) (hi : i = nI k) (hk : k < n) (hn : n < 2 ^ 31)
    (kk : J G oR oc on ort T z σ kc ks (pc + 1) L (.int (f k) :: st)) : J G oR oc on ort T z σ kc ks pc L (.int i :: .ref a :: st) := by
  intro p l e s m args below meth c H locs ls C0 X hw hS hL
  subst hi
  refine va_bald C0.1 C0.2.1 C0.2.2.2.2.2.2.2.1 (hw.one he) 0 1 rfl rfl (vp_in_nI hk hn) hd ?_
  rw [nI_clamp (by omega)]
  exact kk p l e s m args below meth c H locs ls C0 X hw hS hL
theorem j_zald {a n k : Nat} {f : Nat → Int32} {i : Int32} (hd : decode oc pc = .ok (.baload, 1)) (he : σ a = some (.inl (2, n, f))) (hi : i = nI k) (hk : k < n) (hn : n < 2 ^ 31)
    (kk : J G oR oc on ort T z σ kc ks (pc + 1) L (.int (f k) :: st)) : J G oR oc on ort T z σ kc ks pc L (.int i :: .ref a :: st) := by
  intro p l e s m args below meth c H locs ls C0 X hw hS hL
  subst hi
  refine va_zald C0.1 C0.2.1 C0.2.2.2.2.2.2.2.1 (hw.one he) 0 2 rfl rfl (vp_in_nI hk hn) hd ?_
  rw [nI_clamp (by omega)]
  exact kk p l e s m args below meth c H locs ls C0 X hw hS hL
theorem j_aald {a n k kd b : Nat} {f : Nat → Option Nat} {i : Int32} (hd : decode oc pc = .ok (.aaload, 1)) (he : σ a = some (.inr (.inl (kd, n, f)))) (hkd : kd = 3 ∨ kd = 4) (hi : i = nI k) (hk : k < n) (hn : n < 2 ^ 31) (hf : f k = some b)
    (kk : J G oR oc on ort T z σ kc ks (pc + 1) L (.ref b :: st)) : J G oR oc on ort T z σ kc ks pc L (.int i :: .ref a :: st) := by
  intro p l e s m args below meth c H locs ls C0 X hw hS hL
  subst hi
  have kk2 := kk p l e s m args below meth c H locs ls C0 X hw hS hL
  rcases hkd with rfl | rfl
  · refine va_aldq (C := RX3) C0.1 C0.2.1 C0.2.2.2.2.2.2.2.1 (hw.one he) 0 3 rfl rfl (vp_in_nI hk hn) hd ?_
    rw [nI_clamp (by omega)]
    dsimp only
    rw [hf]
    exact kk2
  · refine va_aldq (C := RX4) C0.1 C0.2.1 C0.2.2.2.2.2.2.2.1 (hw.one he) 0 4 rfl rfl (vp_in_nI hk hn) hd ?_
    rw [nI_clamp (by omega)]
    dsimp only
    rw [hf]
    exact kk2
theorem upd_cell (cA : ClassId) (n k : Nat) (f : Nat → Int32) (x y : Int32) (h : Value.int y = .int x) : (vp_cell cA (n, .inl f)).setSlot k (.int y) = vp_cell cA (n, .inl (upd f k x)) := by
  rw [vp_cell_i, vp_cell_i, arrV_store]
  congr 2
  funext q
  cases h
  by_cases hq : q = k
  · subst hq
    simp [updV, upd]
  · simp [updV, upd, hq]
theorem j_iast {a n k : Nat} {f : Nat → Int32} {i x : Int32} (hd : decode oc pc = .ok (.iastore, 1)) (he : σ a = some (.inl (0, n, f))) (hi : i = nI k) (hk : k < n) (hn : n < 2 ^ 31) (σ2 : AH) (h2 : ups σ a (.inl (0, n, upd f k x)) = σ2)
    (kk : J G oR oc on ort T z σ2 kc ks (pc + 1) L st) : J G oR oc on ort T z σ kc ks pc L (.int x :: .int i :: .ref a :: st) := by
  intro p l e s m args below meth c H locs ls C0 X hw hS hL
  subst hi; subst h2
  have hin : vp_in (nI k) n := vp_in_nI hk hn
  have hkc : (nI k).toNatClampNeg = k := nI_clamp (by omega)
  refine W.iast C0.1 C0.2.1 (hw.at he).1 (((C0.2.2.2.2.2.2.2.1).2 0 _ rfl).1 n (fun j => .int (f j))) (fun q => by cases q) (by show ¬ (nI k < 0 ∨ (arrV _ _ _).slots.size ≤ _); rw [arrV_size]; exact hin) rfl rfl hd fun H1 e1 z1 oq => ?_
  refine kk p l e s m args below meth c H1 _ ls C0 X (hw.put he z1 ?_ oq) (hS.put z1 oq (AG_ad hw he)) hL
  show H1[ad G a]? = some (vp_cell _ _)
  rw [e1, hkc]
  exact congrArg some (upd_cell _ n k f x x rfl)
theorem j_bast {a n k : Nat} {f : Nat → Int32} {i x : Int32} (hd : decode oc pc = .ok (.bastore, 1)) (he : σ a = some (.inl (1, n, f))) (hi : i = nI k) (hk : k < n) (hn : n < 2 ^ 31) (σ2 : AH) (h2 : ups σ a (.inl (1, n, upd f k (x.toInt8.toInt32))) = σ2)
    (kk : J G oR oc on ort T z σ2 kc ks (pc + 1) L st) : J G oR oc on ort T z σ kc ks pc L (.int x :: .int i :: .ref a :: st) := by
  intro p l e s m args below meth c H locs ls C0 X hw hS hL
  subst hi; subst h2
  have hin : vp_in (nI k) n := vp_in_nI hk hn
  have hkc : (nI k).toNatClampNeg = k := nI_clamp (by omega)
  refine W.bast C0.1 C0.2.1 (hw.at he).1 (((C0.2.2.2.2.2.2.2.1).2 1 _ rfl).1 n (fun j => .int (f j))) (fun q => by cases q) (by show ¬ (nI k < 0 ∨ (arrV _ _ _).slots.size ≤ _); rw [arrV_size]; exact hin) rfl rfl hd fun H1 e1 z1 oq => ?_
  refine kk p l e s m args below meth c H1 _ ls C0 X (hw.put he z1 ?_ oq) (hS.put z1 oq (AG_ad hw he)) hL
  show H1[ad G a]? = some (vp_cell _ _)
  rw [e1, hkc]
  exact congrArg some (upd_cell _ n k f _ _ rfl)
theorem j_zast {a n k : Nat} {f : Nat → Int32} {i x : Int32} (hd : decode oc pc = .ok (.bastore, 1)) (he : σ a = some (.inl (2, n, f))) (hi : i = nI k) (hk : k < n) (hn : n < 2 ^ 31) (hx : narrow .boolean (.int x) = .int x) (σ2 : AH) (h2 : ups σ a (.inl (2, n, upd f k x)) = σ2)
    (kk : J G oR oc on ort T z σ2 kc ks (pc + 1) L st) : J G oR oc on ort T z σ kc ks pc L (.int x :: .int i :: .ref a :: st) := by
  intro p l e s m args below meth c H locs ls C0 X hw hS hL
  subst hi; subst h2
  have hin : vp_in (nI k) n := vp_in_nI hk hn
  have hkc : (nI k).toNatClampNeg = k := nI_clamp (by omega)
  refine W.zast C0.1 C0.2.1 (hw.at he).1 (((C0.2.2.2.2.2.2.2.1).2 2 _ rfl).1 n (fun j => .int (f j))) (fun q => by cases q) (by show ¬ (nI k < 0 ∨ (arrV _ _ _).slots.size ≤ _); rw [arrV_size]; exact hin) rfl rfl hd fun H1 e1 z1 oq => ?_
  refine kk p l e s m args below meth c H1 _ ls C0 X (hw.put he z1 ?_ oq) (hS.put z1 oq (AG_ad hw he)) hL
  show H1[ad G a]? = some (vp_cell _ _)
  rw [e1, hkc, hx]
  exact congrArg some (upd_cell _ n k f x x rfl)
theorem j_alen {a n kd : Nat} {f : Nat → Int32} (hd : decode oc pc = .ok (.arraylength, 1)) (he : σ a = some (.inl (kd, n, f))) (hkd : kd < 5)
    (kk : J G oR oc on ort T z σ kc ks (pc + 1) L (.int (nI n) :: st)) : J G oR oc on ort T z σ kc ks pc L (.ref a :: st) := by
  intro p l e s m args below meth c H locs ls C0 X hw hS hL
  exact va_alen C0.1 C0.2.1 C0.2.2.2.2.2.2.2.1 (hw.one he) 0 kd rfl (tysG_at hkd) (v := nI n) rfl hd (kk p l e s m args below meth c H locs ls C0 X hw hS hL)
theorem j_min {ix : Nat} {x y : Int32} (hd : decode oc pc = .ok (.invokestatic ix, 3)) (h : ∀ w ∈ [Cond.methodLink oR ix Lib.Math.min.name, .static Lib.Math.min.name, .initialized "java/lang/Math", .code Lib.Math.min.name Lib.Math.min.code 2 (some .int)], w ∈ gw) (hf : 1 ≤ T.1.frames) (hl : (st.map fun v => v.category).sum + 13 ≤ T.1.locals) (hc : kc ≤ T.1.cells) (hs : ks ≤ T.1.slots)
    (kk : J G oR oc on ort T z σ kc ks (pc + 3) L (.int (if y < x then y else x) :: st)) : J G oR oc on ort T z σ kc ks pc L (.int y :: .int x :: st) := by
  intro p l e s m args below meth c H locs ls C0 X hw hS hL
  have hh : ∀ w ∈ [Cond.methodLink oR ix Lib.Math.min.name, .static Lib.Math.min.name, .initialized "java/lang/Math", .code Lib.Math.min.name Lib.Math.min.code 2 (some .int)], w.before args s = true := fun w q => C0.2.2.2.2.2.1 w (h w q)
  refine va_mmin C0.1 C0.2.1 (by rw [hL.1]; exact C0.2.2.2.1) C0.2.2.2.2.1 (hh _ (by simp)) (hh _ (by simp)) (hh _ (by simp)) (hh _ (by simp)) hf ?_ hc hs hd (kk p l e s m args below meth c H locs ls C0 X hw hS hL)
  have e1 : (st.map (cV G)).map (fun v => v.category) = st.map fun v => v.category := by rw [List.map_map]; exact List.map_congr_left fun v _ => cV_cat G v
  rw [e1]
  exact hl
end JH

/-! ROWS OF J: arrays of references, new and stored; the simple constructors -/
theorem ao_3 {G : GG} {s : State} (h : Gx G s s.heap) : va_AO RX3 s := h.2.2.2.2.2.2.2.1
theorem ao_4 {G : GG} {s : State} (h : Gx G s s.heap) : va_AO RX4 s := h.2.2.2.2.2.2.2.2.1
abbrev dfl0 : List Value := [.null, .int 0, .int 0]
abbrev dfl1 : List Value := [.null, .int 0]
abbrev dfl2 : List Value := [.null, .null, .int 0, .int 0, .int 0, .int 0, .int 0, .int 0, .int 0]
abbrev dfl3 : List Value := [.null, .int 0, .int 0]
abbrev dfl4 : List Value := [.null, .null, .null, .null, .int 0, .int 0, .int 0, .int 0, .int 0, .int 0]
theorem df_0 (G : GG) : ∀ j, j < 3 → defaultValue (tyX0 j) = vp_V (dfl0.map (cV G)) j := by
  intro j hj
  match j, hj with
  | 0, _ => rfl
  | 1, _ => rfl
  | 2, _ => rfl
theorem df_1 (G : GG) : ∀ j, j < 2 → defaultValue (tyX1 j) = vp_V (dfl1.map (cV G)) j := by
  intro j hj
  match j, hj with
  | 0, _ => rfl
  | 1, _ => rfl
theorem df_2 (G : GG) : ∀ j, j < 9 → defaultValue (tyX2 j) = vp_V (dfl2.map (cV G)) j := by
  intro j hj
  match j, hj with
  | 0, _ => rfl
  | 1, _ => rfl
  | 2, _ => rfl
  | 3, _ => rfl
  | 4, _ => rfl
  | 5, _ => rfl
  | 6, _ => rfl
  | 7, _ => rfl
  | 8, _ => rfl
theorem df_3 (G : GG) : ∀ j, j < 3 → defaultValue (tyX3 j) = vp_V (dfl3.map (cV G)) j := by
  intro j hj
  match j, hj with
  | 0, _ => rfl
  | 1, _ => rfl
  | 2, _ => rfl
theorem df_4 (G : GG) : ∀ j, j < 10 → defaultValue (tyX4 j) = vp_V (dfl4.map (cV G)) j := by
  intro j hj
  match j, hj with
  | 0, _ => rfl
  | 1, _ => rfl
  | 2, _ => rfl
  | 3, _ => rfl
  | 4, _ => rfl
  | 5, _ => rfl
  | 6, _ => rfl
  | 7, _ => rfl
  | 8, _ => rfl
  | 9, _ => rfl
section JA
variable {G : GG} {oR : String} {oc : ByteArray} {on : Nat} {ort : Option FieldType} {T : TG} {z kc ks pc : Nat} {σ : AH} {L : List (Option Value)} {st : List Value}
theorem j_anew {ix N : Nat} {x : Int32} {C : String} (kd : Nat) (hd : decode oc pc = .ok (.anewarray ix, 3)) (hcl : Cond.classLink oR ix C ∈ gw) (hty : (tysG G)[kd]? = some (G.2.2.2.1 kd, .object C)) (hAO : ∀ {s : State}, Gx G s s.heap → va_AO C s) (hx : x = nI N) (hN : N < 100000) (hz : z < EXT) (hc1 : kc + 1 ≤ T.1.cells) (hs1 : ks + N ≤ T.1.slots)
    (kk : J G oR oc on ort T (z + 1) (ups σ z (.inr (.inl (kd, N, fun _ => none)))) (kc + 1) (ks + N) (pc + 3) L (.ref z :: st)) : J G oR oc on ort T z σ kc ks pc L (.int x :: st) := by
  intro p l e s m args below meth c H locs ls C0 X hw hS hL
  subst hx
  obtain ⟨hx, hb, hr, hml, hown, hts, hlk, hK, hg, hB⟩ := id C0
  have kn : (nI N).toNatClampNeg = N := nI_clamp (by omega)
  refine W.anew hx hb hown (hts _ hcl) (va_AO.use (hAO hg)) rfl hd rfl (nI_pos (by omega)) (by rw [kn]; omega) hc1 (by rw [kn]; exact hs1) fun cA kA comp f1 f2 f3 f4 => ?_
  obtain ⟨kA', comp', k1, k2, k3, k4⟩ := (hK.2 kd _ hty).2
  have hcA : cA = G.2.2.2.1 kd := Option.some.inj (f1.symm.trans k4)
  have hz2 : ad G z = H.size := by rw [ad_lt hz, hw.1]
  have z1 : (H.push ({ cls := cA, slots := Array.replicate (nI N).toNatClampNeg .null, vm := .none } : Cell)).size = H.size + 1 := Array.size_push ..
  have e1 : (H.push ({ cls := cA, slots := Array.replicate (nI N).toNatClampNeg .null, vm := .none } : Cell))[H.size]? = some (arrV cA (nI N).toNatClampNeg (fun _ => .null)) := by rw [Array.getElem?_push_size, ← arrV_new]
  have o1 : ∀ q : Nat, q < H.size → (H.push ({ cls := cA, slots := Array.replicate (nI N).toNatClampNeg .null, vm := .none } : Cell))[q]? = H[q]? := fun q hq => by rw [Array.getElem?_push, if_neg (Nat.ne_of_lt hq)]
  have kk2 := kk p l e s m args below meth c (H.push ({ cls := cA, slots := Array.replicate (nI N).toNatClampNeg .null, vm := .none } : Cell)) locs ls C0 X (hw.push hz z1 (show _ = some (vp_cell _ _) by rw [e1, hcA, kn]; rfl) o1) ⟨Nat.le_trans hS.1 (by omega), fun x h1 h2 => (o1 x (Nat.lt_of_lt_of_le h1 hS.1)).trans (hS.2.1 x h1 h2), hS.2.2⟩ hL
  rw [List.map_cons] at kk2
  rw [show cV G (.ref z) = .ref H.size by show Value.ref (ad G z) = _; rw [hz2]] at kk2
  rw [kn] at kk2 ⊢
  exact kk2
def updR (f : Nat → Option Nat) (k v : Nat) : Nat → Option Nat := fun j => if j = k then some v else f j
theorem j_aast {a n k v ci : Nat} {f : Nat → Option Nat} {fs : List Value} {TT : u_T} {N : Nat} {C : String} (kd : Nat) (hd : decode oc pc = .ok (.aastore, 1)) (he : σ a = some (.inr (.inl (kd, n, f)))) (hty : (tysG G)[kd]? = some (G.2.2.2.1 kd, .object C)) (hc : classes[ci]? = some (C, TT, N)) (hv : σ v = some (.inr (.inr (ci, fs)))) {i : Int32} (hi : i = nI k) (hk : k < n) (hn : n < 2 ^ 31) (σ2 : AH) (h2 : ups σ a (.inr (.inl (kd, n, updR f k v))) = σ2)
    (kk : J G oR oc on ort T z σ2 kc ks (pc + 1) L st) : J G oR oc on ort T z σ kc ks pc L (.ref v :: .int i :: .ref a :: st) := by
  intro p l e s m args below meth c H locs ls C0 X hw hS hL
  subst hi; subst h2
  obtain ⟨hx, hb, hr, hml, hown, hts, hlk, hK, hg, hB⟩ := id C0
  have kn : (nI k).toNatClampNeg = k := nI_clamp (by omega)
  have hca : H[ad G a]? = some (vp_cell (G.2.2.2.1 kd) (n, .inr (.inr (.inr (.inr (fun j => (f j).map (ad G))))))) := (hw.at he).1
  obtain ⟨r', hr', cellV, g1, g2, g3, -⟩ := (hw.at hv).1
  have hcls := (hK.1 ci _ hc).2
  obtain ⟨kA, comp, k1, k2, k3, -⟩ := (hK.2 kd _ hty).2
  have hcomp : comp = (DG G).1 ci := Option.some.inj (k3.symm.trans hcls.1)
  subst hcomp
  obtain ⟨kC, hkC, -⟩ := hcls.2
  refine W.aast hx hb hca (fun q h => by cases h) (fun h => by cases h) k1 k2 rfl hkC ⟨nI_pos (by omega), by show _ < (arrV _ _ _).slots.size; rw [arrV_size, kn]; exact hk⟩ g1 (fun q h => by rw [g3] at h; cases h) (by rw [g2]; exact hkC) (by rw [g2]; exact va_assign hcls) rfl rfl hd fun H1 e1 z1 oq => ?_
  refine kk p l e s m args below meth c H1 _ ls C0 X (hw.put he z1 ?_ oq) (hS.put z1 oq (AG_ad hw he)) hL
  show H1[ad G a]? = some (vp_cell _ _)
  rw [e1]
  rw [vp_cell_q, vp_cell_q, arrV_store, kn]
  congr 2
  funext q
  by_cases hq : q = k
  · subst hq
    simp [updV, updR, va_rf]
  · simp [updV, updR, hq]
theorem j_arrR {a kd n : Nat} {f : Nat → Option Nat} (g : Nat → Option Nat) (he : σ a = some (.inr (.inl (kd, n, f)))) (hg : ∀ j, j < n → f j = g j) (σ2 : AH) (h2 : ups σ a (.inr (.inl (kd, n, g))) = σ2) (kk : J G oR oc on ort T z σ2 kc ks pc L st) : J G oR oc on ort T z σ kc ks pc L st := by
  intro p l e s m args below meth c H locs ls C0 X hw hS hL
  subst h2
  refine kk p l e s m args below meth c H locs ls C0 X (hw.put he rfl ?_ (fun _ _ => rfl)) hS hL
  have h1 : H[ad G a]? = some (vp_cell (G.2.2.2.1 kd) (n, .inr (.inr (.inr (.inr (fun j => (f j).map (ad G))))))) := (hw.at he).1
  show H[ad G a]? = some (vp_cell (G.2.2.2.1 kd) (n, .inr (.inr (.inr (.inr (fun j => (g j).map (ad G)))))))
  rw [h1, vp_cell_q, vp_cell_q]
  congr 1
  unfold arrV
  congr 1
  apply Array.ext
  · simp
  · intro i h1 h2
    simp at h1
    simp [hg i h1]
end JA

/-! ROWS OF J: System.arraycopy of ints, new cells, statics -/
section JM
variable {G : GG} {oR : String} {oc : ByteArray} {on : Nat} {ort : Option FieldType} {T : TG} {z kc ks pc : Nat} {σ : AH} {L : List (Option Value)} {st : List Value}
theorem j_copy {ix a0 a1 n0 n1 sp dp n : Nat} {f g : Nat → Int32} (hd : decode oc pc = .ok (.invokestatic ix, 3)) (hw0 : ∀ w ∈ [Cond.methodLink oR ix arraycopyName, .native arraycopyName, .static arraycopyName, .initialized "java/lang/System"], w ∈ gw) (he0 : σ a0 = some (.inl (0, n0, f))) (he1 : σ a1 = some (.inl (0, n1, g))) (hs : sp + n ≤ n0) (hs2 : dp + n ≤ n1) (hn0 : n0 < 2 ^ 31) (hn1 : n1 < 2 ^ 31) (hf : 1 ≤ T.1.frames) (hl : (st.map fun v => v.category).sum + (nativeFrameWords "java/lang/System" "arraycopy" 5 + 11) ≤ T.1.locals) (σ2 : AH) (h2 : ups σ a1 (.inl (0, n1, va_cpy f g sp dp n)) = σ2)
    (kk : J G oR oc on ort T z σ2 kc ks (pc + 3) L st) : J G oR oc on ort T z σ kc ks pc L (.int (nI n) :: .int (nI dp) :: .ref a1 :: .int (nI sp) :: .ref a0 :: st) := by
  intro p l e s m args below meth c H locs ls C0 X hw hS hL
  subst h2
  have hh : ∀ w ∈ [Cond.methodLink oR ix arraycopyName, .native arraycopyName, .static arraycopyName, .initialized "java/lang/System"], w.before args s = true := fun w q => C0.2.2.2.2.2.1 w (hw0 w q)
  have w1 := hh (.methodLink oR ix arraycopyName) (by simp)
  have w2 := hh (.native arraycopyName) (by simp)
  have w3 := hh (.static arraycopyName) (by simp)
  have w4 := hh (.initialized "java/lang/System") (by simp)
  have ksp : (nI sp).toNatClampNeg = sp := nI_clamp (by omega)
  have kdp : (nI dp).toNatClampNeg = dp := nI_clamp (by omega)
  have kn : (nI n).toNatClampNeg = n := nI_clamp (by omega)
  have isp : (nI sp).toInt = (sp : Int) := nI_toInt (by omega)
  have idp : (nI dp).toInt = (dp : Int) := nI_toInt (by omega)
  have inn : (nI n).toInt = (n : Int) := nI_toInt (by omega)
  intro TT hT X1
  have hc0 : H[ad G a0]? = some (vp_cell (G.2.2.2.1 0) (n0, .inl f)) := (hw.at he0).1
  have hc1 : H[ad G a1]? = some (vp_cell (G.2.2.2.1 0) (n1, .inl g)) := (hw.at he1).1
  obtain ⟨-, k0, hk0, cm0, hkk0⟩ := ((C0.2.2.2.2.2.2.2.1).2 0 _ rfl).1 n0 (fun j => .int (f j))
  obtain ⟨-, k1, hk1, cm1, hkk1⟩ := ((C0.2.2.2.2.2.2.2.1).2 0 _ rfl).1 n1 (fun j => .int (g j))
  obtain ⟨vm', X', step⟩ := X1.arraycopy C0.1 C0.2.2.2.2.1 w1 w2 w3 w4 (src := ad G a0) (dst := ad G a1) (cs := vp_cell (G.2.2.2.1 0) (n0, .inl f)) (cd := vp_cell (G.2.2.2.1 0) (n1, .inl g)) (srcPos := nI sp) (destPos := nI dp) (n := nI n) (by rw [hT]; exact hc0) (by rw [hT]; exact hc1)
    (fun _ h => by cases h) (fun _ h => by cases h) (fun h => by cases h) (fun h => by cases h) hk0 hk1 hkk0 hkk1 (by simp [refKind]) (nI_pos (by omega)) (nI_pos (by omega)) (nI_pos (by omega))
    (by rw [isp, inn]; show ¬ _ > ((arrV (G.2.2.2.1 0) n0 (fun j => .int (f j))).slots.size : Int); rw [arrV_size]; omega)
    (by rw [idp, inn]; show ¬ _ > ((arrV (G.2.2.2.1 0) n1 (fun j => .int (g j))).slots.size : Int); rw [arrV_size]; omega)
    (fun vm₁ _ i hi => by
      rw [kn] at hi
      rw [ksp]
      have e : (vp_cell (G.2.2.2.1 0) (n0, .inl f)).slots.getD (sp + i) .null = .int (f (sp + i)) := by
        show (arrV (G.2.2.2.1 0) n0 (fun j => .int (f j))).slots.getD _ _ = _
        rw [Array.getD_eq_getD_getElem?, arrV_read _ _ (by omega)]
        rfl
      refine ⟨?_, ?_⟩
      · rw [e]; rfl
      · rw [e]; exact trivial)
    (g := F0 m pc ls ((Value.int (nI n) :: .int (nI dp) :: .ref a1 :: .int (nI sp) :: .ref a0 :: st).map (cV G))) rfl (by rw [C0.2.2.2.1]; exact hL.1) (rest := st.map (cV G)) rfl (by rw [C0.2.1]; exact hd) hf (by show 2 * 0 + _ + _ ≤ _; rw [cat_map]; omega)
  have e1 : copied (vp_cell (G.2.2.2.1 0) (n0, .inl f)) (vp_cell (G.2.2.2.1 0) (n1, .inl g)) (nI sp) (nI dp) (nI n) = vp_cell (G.2.2.2.1 0) (n1, .inl (va_cpy f g sp dp n)) := by
    unfold copied
    rw [ksp, kdp, kn]
    exact va_copied (fun z => .int z) (G.2.2.2.1 0) (G.2.2.2.1 0) f g hs
  rw [e1] at X' step
  have hl2 : ad G a1 < H.size := (Array.getElem?_eq_some_iff.mp hc1).1
  have hheap : ((TT.setVm vm').setCell (ad G a1) (vp_cell (G.2.2.2.1 0) (n1, .inl (va_cpy f g sp dp n)))).heap = H.setIfInBounds (ad G a1) (vp_cell (G.2.2.2.1 0) (n1, .inl (va_cpy f g sp dp n))) := by rw [← hT]; rfl
  have oq : ∀ q : Nat, q ≠ ad G a1 → (H.setIfInBounds (ad G a1) (vp_cell (G.2.2.2.1 0) (n1, .inl (va_cpy f g sp dp n))))[q]? = H[q]? := fun q hq => by simp [Array.getElem?_setIfInBounds, Ne.symm hq]
  obtain ⟨t, a1', b1⟩ := kk p l e s m args below meth c _ _ ls C0 X (hw.put he1 (by simp) (show (H.setIfInBounds (ad G a1) _)[ad G a1]? = some _ by simp [Array.getElem?_setIfInBounds, hl2]) oq) ⟨by simp; exact hS.1, fun q g1 g2 => by
      rw [oq q (fun e => g2 (by rw [e]; exact AG_ad hw he1))]
      exact hS.2.1 q g1 g2, fun q hq => by
      rcases List.mem_append.mp hq with h | h
      · exact hS.2.2 q h
      · obtain ⟨z, -, hz⟩ := List.mem_map.mp h
        rw [← hz]
        exact AG_ad hw he1⟩ hL _ hheap X'
  exact ⟨t, step t a1', b1⟩
theorem j_new {ix : Nat} (hd : decode oc pc = .ok (.new ix, 3)) (ci : Nat) {C : String} {TT : u_T} {N : Nat} (hc : classes[ci]? = some (C, TT, N)) (hcl : Cond.classLink oR ix C ∈ gw) (hnw : ∀ w ∈ [Cond.instantiable C N, .initialized C], w ∈ gw) (hin : ∀ w ∈ u_ws C TT N, w ∈ gw) (ty0 : Nat → FieldType) (hty : ∀ k, k < N → parseFieldDescriptor (TT k).2.2.1 = some (ty0 k)) (fs : List Value) (hfs : ∀ j, j < N → defaultValue (ty0 j) = vp_V (fs.map (cV G)) j) (hz : z < EXT) (hc1 : kc + 1 ≤ T.1.cells) (hs1 : ks + N ≤ T.1.slots)
    (kk : J G oR oc on ort T (z + 1) (ups σ z (.inr (.inr (ci, fs)))) (kc + 1) (ks + N) (pc + 3) L (.ref z :: st)) : J G oR oc on ort T z σ kc ks pc L st := by
  intro p l e s m args below meth c H locs ls C0 X hw hS hL
  obtain ⟨hx, hb, hr, hml, hown, hts, hlk, hK, hg, hB⟩ := id C0
  have hKn := hK.1 ci _ hc
  refine W.newcK hx hb hown (hts _ hcl) (hts (.instantiable C N) (hnw _ (by simp))) (hts (.initialized C) (hnw _ (by simp))) rfl hd hc1 hs1 hKn.2.1 rfl fun H1 kC hkC e1 z1 o1 => ?_
  have hz2 : ad G z = H.size := by rw [ad_lt hz, hw.1]
  have kk2 := kk p l e s m args below meth c H1 locs ls C0 X (hw.push hz z1 ⟨_, hc, (u_born ty0 hts hin hKn hkC e1 hty).to hfs⟩ o1) ⟨Nat.le_trans hS.1 (by omega), fun x h1 h2 => (o1 x (Nat.lt_of_lt_of_le h1 hS.1)).trans (hS.2.1 x h1 h2), hS.2.2⟩ hL
  rw [List.map_cons] at kk2
  rw [show cV G (.ref z) = .ref H.size by show Value.ref (ad G z) = _; rw [hz2]] at kk2
  exact kk2
theorem j_newa {N : Nat} {x : Int32} (atype : ArrayType) (kd : Nat) (hkd : kd < 3) (hd : decode oc pc = .ok (.newarray atype, 2)) (hty : newarray.typeOf atype = tyA kd) (har : Cond.arrayClass (newarray.typeOf atype) ∈ gw) (hx : x = nI N) (hN : N < 100000) (hz : z < EXT) (hc1 : kc + 1 ≤ T.1.cells) (hs1 : ks + N ≤ T.1.slots)
    (kk : J G oR oc on ort T (z + 1) (ups σ z (.inl (kd, N, fun _ => 0))) (kc + 1) (ks + N) (pc + 2) L (.ref z :: st)) : J G oR oc on ort T z σ kc ks pc L (.int x :: st) := by
  intro p l e s m args below meth c H locs ls C0 X hw hS hL
  subst hx
  obtain ⟨hx, hb, hr, hml, hown, hts, hlk, hK, hg, hB⟩ := id C0
  have hcb : N * componentBytes (newarray.typeOf atype) ≤ 536870912 := by
    have h8 : componentBytes (newarray.typeOf atype) ≤ 8 := by cases atype <;> decide
    exact Nat.le_trans (Nat.mul_le_mul (Nat.le_of_lt hN) h8) (by decide)
  refine va_newaK hx hb (hts _ har) rfl hd rfl (nI_pos (by omega)) (nI_clamp (by omega)) hcb hc1 hs1 rfl fun H1 cA e1 z1 o1 hAr hNm => ?_
  have hcA : cA = G.2.2.2.1 kd := by
    have h1 := (hK.2 kd _ (tysG_at (by omega))).2
    rw [hty] at hNm
    match kd, hkd, h1, hNm with
    | 0, _, h1, hNm => exact Option.some.inj (hNm.symm.trans h1)
    | 1, _, h1, hNm => exact Option.some.inj (hNm.symm.trans h1)
    | 2, _, h1, hNm => exact Option.some.inj (hNm.symm.trans h1)
  have hdv : (fun _ : Nat => defaultValue (newarray.typeOf atype)) = fun _ => Value.int 0 := by
    funext _
    rw [hty]
    match kd, hkd with
    | 0, _ => rfl
    | 1, _ => rfl
    | 2, _ => rfl
  have hz2 : ad G z = H.size := by rw [ad_lt hz, hw.1]
  have kk2 := kk p l e s m args below meth c H1 locs ls C0 X (hw.push hz z1 (show H1[H.size]? = some (vp_cell _ _) by rw [e1, hcA, hdv]; rfl) o1) ⟨Nat.le_trans hS.1 (by omega), fun x h1 h2 => (o1 x (Nat.lt_of_lt_of_le h1 hS.1)).trans (hS.2.1 x h1 h2), hS.2.2⟩ hL
  rw [List.map_cons] at kk2
  rw [show cV G (.ref z) = .ref H.size by show Value.ref (ad G z) = _; rw [hz2]] at kk2
  exact kk2
theorem cell_ext (cA : ClassId) (n : Nat) (f g : Nat → Int32) (h : ∀ j, j < n → f j = g j) : vp_cell cA (n, .inl f) = vp_cell cA (n, .inl g) := by
  rw [vp_cell_i, vp_cell_i]
  unfold arrV
  congr 1
  apply Array.ext
  · simp
  · intro i h1 h2
    simp at h1
    simp [h i h1]
/-- an array's contents under another name: what lies beyond its end is nothing -/
theorem j_arr {a kd n : Nat} {f : Nat → Int32} (g : Nat → Int32) (he : σ a = some (.inl (kd, n, f))) (hg : ∀ j, j < n → f j = g j) (σ2 : AH) (h2 : ups σ a (.inl (kd, n, g)) = σ2) (kk : J G oR oc on ort T z σ2 kc ks pc L st) : J G oR oc on ort T z σ kc ks pc L st := by
  intro p l e s m args below meth c H locs ls C0 X hw hS hL
  subst h2
  refine kk p l e s m args below meth c H locs ls C0 X (hw.put he rfl ?_ (fun _ _ => rfl)) hS hL
  have h1 : H[ad G a]? = some (vp_cell (G.2.2.2.1 kd) (n, .inl f)) := (hw.at he).1
  show H[ad G a]? = some (vp_cell (G.2.2.2.1 kd) (n, .inl g))
  rw [h1, cell_ext _ n f g hg]
end JM

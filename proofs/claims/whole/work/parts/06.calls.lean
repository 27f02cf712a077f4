/-! ROWS OF J: ends of a method, calls, new cells, statics -/
section JC
variable {G : GG} {oR : String} {oc : ByteArray} {on : Nat} {ort : Option FieldType} {T : TG} {z kc ks pc : Nat} {σ : AH} {L : List (Option Value)} {st : List Value}
theorem j_iret {n mc ms : Nat} {r : Option Value} {σ1 : AH} {v : Int32} (hM : ort = some .int) (hd : decode oc pc = .ok (.ireturn, 1)) (hr : r = some (.int v)) (h1 : σ1 = σ) (hkc : kc ≤ mc) (hks : ks ≤ ms) : J G oR oc on ort (TQ G n mc ms r z σ1) z σ kc ks pc L [.int v] := by
  intro p l e s m args below meth c H locs ls C X hw hS hL
  subst hr; subst h1
  refine W.widen (k := mc) (n := ms) hkc hks ?_
  exact W.iret C.1 C.2.1 (C.2.2.1.trans hM) (fun t ht _ => ⟨rfl, by rw [ht]; exact hw, hS.F ht⟩) hS.2.2 hd (hlocks := C.2.2.2.2.2.2.1)
theorem j_zret {n mc ms : Nat} {r : Option Value} {σ1 : AH} {v : Int32} (ty : FieldType) (hM : ort = some ty) (hn : narrow ty (.int v) = .int v) (hd : decode oc pc = .ok (.ireturn, 1)) (hr : r = some (.int v)) (h1 : σ1 = σ) (hkc : kc ≤ mc) (hks : ks ≤ ms) : J G oR oc on ort (TQ G n mc ms r z σ1) z σ kc ks pc L [.int v] := by
  intro p l e s m args below meth c H locs ls C X hw hS hL
  subst hr; subst h1
  refine W.widen (k := mc) (n := ms) hkc hks ?_
  exact W.zret C.1 C.2.1 (C.2.2.1.trans hM) hn (fun t ht _ => ⟨rfl, by rw [ht]; exact hw, hS.F ht⟩) hS.2.2 hd (hlocks := C.2.2.2.2.2.2.1)
theorem j_vret {n mc ms : Nat} {σ1 : AH} (hM : ort = none) (hd : decode oc pc = .ok (.return_, 1)) (h1 : σ1 = σ) (hkc : kc ≤ mc) (hks : ks ≤ ms) : J G oR oc on ort (TQ G n mc ms none z σ1) z σ kc ks pc L [] := by
  intro p l e s m args below meth c H locs ls C X hw hS hL
  subst h1
  refine W.widen (k := mc) (n := ms) hkc hks ?_
  exact W.vret C.1 C.2.1 (C.2.2.1.trans hM) (fun t ht _ => ⟨rfl, by rw [ht]; exact hw, hS.F ht⟩) hS.2.2 hd (hlocks := C.2.2.2.2.2.2.1)
theorem j_vretI {n mc ms z1 : Nat} {σ1 : AH} (hM : ort = none) (hd : decode oc pc = .ok (.return_, 1)) (hz : z1 = z) (h1 : σ1 = σ) (hkc : kc ≤ mc) (hks : ks ≤ ms) : J G oR oc on ort (TI G n mc ms z1 σ1) z σ kc ks pc L [] := by
  intro p l e s m args below meth c H locs ls C X hw hS hL
  subst h1; subst hz
  refine W.widen (k := mc) (n := ms) hkc hks ?_
  exact W.vret C.1 C.2.1 (C.2.2.1.trans hM) (fun t ht _ => ⟨rfl, by rw [ht]; exact hw, hS.F ht⟩) hS.2.2 hd (hlocks := C.2.2.2.2.2.2.1)
end JC
theorem W_call {p : Program} {l : Launch} {e : Env} {R : Room} {s : State} {m : MethodId} {args : Array Value} {below : List Frame} {meth : Method} {c : Code} {H : Heap} {locs : List Loc} {cells slots : Nat} {Q : State → Prop} {pc mc ms : Nat} {ls : Array Slot} {rest st0 : List Value} {a : Array Value} {G : GG} {r : Option Value} {z2 : Nat} {σ2 : AH}
    (hr : va_Run p l e R s m args below meth c H locs cells slots mc ms (F0 m pc ls st0) rest (Qr G r z2 σ2 a) (AG G)) (hS : va_S (AG G) s.heap H locs)
    (kk : ∀ (H1 : Heap) (locs1 : List Loc), Wc G z2 σ2 H1 → va_S (AG G) s.heap H1 locs1 → W p l e R s m args below meth c H1 locs1 (cells + mc) (slots + ms) Q (F0 m (pc + 3) ls ((r.map (cV G)).toList ++ rest))) : W p l e R s m args below meth c H locs cells slots Q (F0 m pc ls st0) := by
  intro T hT X
  obtain ⟨v, st₀, t, T', L, h0, X', hL, e1, e2, ⟨hv, hwc, hz, hk⟩, st⟩ := hr T hT X
  cases hv
  rw [h0] at hz hk
  rw [← e1] at hwc
  obtain ⟨t2, a1, b1⟩ := kk T'.heap (locs ++ L) hwc
    ⟨Nat.le_trans hS.1 (by rw [e1]; exact hz), fun q h1 h2 => by rw [e1, hk q (Nat.lt_of_lt_of_le h1 hS.1) h2]; exact hS.2.1 q h1 h2, fun q hq => by
      rcases List.mem_append.mp hq with h | h
      · exact hS.2.2 q h
      · exact hL q h⟩ T' rfl X'
  exact ⟨t2, st t2 a1, b1⟩
/-- the words of a call -/
def WV (own : String) (ix : Nat) (y : MethodName) (cc : ByteArray) (nL : Nat) (ret : Option FieldType) (n : Nat) : Prop := (∀ w ∈ [Cond.methodLink own ix y, .instanceMethod y, .selects y.cls y y, .initialized y.cls, .code y cc nL ret], w ∈ gw) ∧ y.cls ≠ "java/lang/invoke/MethodHandle" ∧ y.cls ≠ "java/lang/invoke/VarHandle" ∧ (parseMethodDescriptor y.desc).map (fun d => d.parameters.length) = some n
def WS (own : String) (ix : Nat) (y : MethodName) (cc : ByteArray) (nL : Nat) (ret : Option FieldType) (n : Nat) : Prop := (∀ w ∈ [Cond.methodLink own ix y, .static y, .initialized y.cls, .code y cc nL ret], w ∈ gw) ∧ y.cls ≠ "java/lang/invoke/MethodHandle" ∧ y.cls ≠ "java/lang/invoke/VarHandle" ∧ (parseMethodDescriptor y.desc).map (fun d => d.parameters.length) = some n
def WN (y : MethodName) (cc : ByteArray) (nL : Nat) (ret : Option FieldType) (n : Nat) : Prop := (∀ w ∈ [Cond.static y, .initialized y.cls, .code y cc nL ret], w ∈ gw) ∧ y.cls ≠ "java/lang/invoke/MethodHandle" ∧ y.cls ≠ "java/lang/invoke/VarHandle" ∧ (parseMethodDescriptor y.desc).map (fun d => d.parameters.length) = some n
def WI (own : String) (ix : Nat) (y : MethodName) (cc : ByteArray) (nL : Nat) (n : Nat) : Prop := (∀ w ∈ [Cond.methodLink own ix y, .instanceMethod y, .initialized y.cls, .code y cc nL none], w ∈ gw) ∧ y.name = "<init>" ∧ y.cls ≠ "java/lang/invoke/MethodHandle" ∧ y.cls ≠ "java/lang/invoke/VarHandle" ∧ (parseMethodDescriptor y.desc).map (fun d => d.parameters.length) = some n
theorem gw_code {y : MethodName} {cc : ByteArray} {nL : Nat} {ret : Option FieldType} (h : Cond.code y cc nL ret ∈ gw) : GoodIn gw (.code y cc nL ret :: gw) := by
  intro w hw
  rcases List.mem_cons.mp hw with rfl | h1
  · exact ⟨h, gw_good h⟩
  · exact ⟨h1, gw_good h1⟩
theorem pc_blind {G : GG} {z : Nat} {σ : AH} {av : List Value} : FrameBlind (va_Pc av (fun U => Wc G z σ U.heap ∧ va_K (DG G) classes (tysG G) U ∧ Gx G U U.heap ∧ G.1 ≤ U.heap.size)) := by
  intro a U g mk q
  obtain ⟨q0, q1, q2, q3, q4⟩ := q
  exact ⟨q0, q1, va_K.moved (u := U) (U := U.calling g mk a) (Vm.Alike.refl U.vm) q2, q3.same, q4⟩
theorem pc_here {G : GG} {oR : String} {oc : ByteArray} {on : Nat} {ort : Option FieldType} {p : Program} {s : State} {m : MethodId} {args : Array Value} {meth : Method} {c : Code} {z : Nat} {σ : AH} {H : Heap} {locs : List Loc} {av : List Value} (C : Cx G (oR, oc, on, ort) p s m args meth c) (hw : Wc G z σ H) (hS : va_S (AG G) s.heap H locs) : ∀ U : State, U.heap = H → s.WarmedH U.vm → va_Pc av (fun U => Wc G z σ U.heap ∧ va_K (DG G) classes (tysG G) U ∧ Gx G U U.heap ∧ G.1 ≤ U.heap.size) av.toArray U := by
  intro U hU hW
  obtain ⟨hx, hb, hr, hml, hown, hts, hlk, hK, hg, hB⟩ := C
  exact ⟨rfl, by rw [hU]; exact hw, va_K.moved hW.alike hK, by rw [hU]; exact hg.warm hW (fun a h1 h2 => hS.2.1 a h1 h2), by rw [hU]; exact Nat.le_trans hB hS.1⟩
theorem cat_map (G : GG) (st : List Value) : ((st.map (cV G)).map fun v => v.category).sum = (st.map fun v => v.category).sum := by
  congr 1
  rw [List.map_map]
  exact List.map_congr_left fun v _ => cV_cat G v
section JC2
variable {G : GG} {oR : String} {oc : ByteArray} {on : Nat} {ort : Option FieldType} {T : TG} {z kc ks pc : Nat} {σ : AH} {L : List (Option Value)} {st : List Value}
variable {ix : Nat} {y : MethodName} {cc : ByteArray} {nL n mc ms : Nat} {ret : Option FieldType} {As rest : List Value} {a : Nat} {r : Option Value} {z2 : Nat} {σ2 : AH}
theorem j_callV (hC : Ct G y cc nL ret n mc ms z σ (.ref a :: As) r z2 σ2) (hd : decode oc pc = .ok (.invokevirtual ix, 3)) (hst : st = As.reverse ++ .ref a :: rest) (hwd : WV oR ix y cc nL ret As.length) {ci : Nat} {fs : List Value} {TT : u_T} {N : Nat} (he : σ a = some (.inr (.inr (ci, fs)))) (hc : classes[ci]? = some (y.cls, TT, N))
    (hrm : n + 1 ≤ T.1.frames ∧ 8 + (nL + 11) + 40 * n ≤ T.1.locals) (hf : kc + mc ≤ T.1.cells ∧ ks + ms ≤ T.1.slots) (hcat : (rest.map fun v => v.category).sum ≤ 8)
    (kk : J G oR oc on ort T z2 σ2 (kc + mc) (ks + ms) (pc + 3) L (r.toList ++ rest)) : J G oR oc on ort T z σ kc ks pc L st := by
  intro p l e s m args below meth c H locs ls C X hw hS hL
  subst hst
  obtain ⟨hwd, hd1, hd2, hd3⟩ := hwd
  have hts := C.2.2.2.2.2.1
  refine W_call (r := r) (z2 := z2) (σ2 := σ2) (rest := rest.map (cV G)) (va_runV (As := As.map (cV G)) (b := ad G a) ⟨C.1, C.2.1, C.2.2.2.1, C.2.2.2.2.1, hts⟩ (hC l) (cwV As.length hts (fun w h => ?_) rfl rfl rfl ⟨rfl, hd1, hd2, hd3⟩ hrm) ⟨pc_blind, ?_, ?_⟩ rfl (by simp) hL.1 (by simp [cV]) (lv_room (by rw [cat_map]; exact hcat)) hd hf) hS (fun H1 locs1 h1 h2 => ?_)
  · unfold wsV at h
    rcases List.mem_append.mp h with h | h
    · have h2 : w ∈ gw := hwd w (by simp at h ⊢; rcases h with h | h | h | h <;> simp [h])
      exact ⟨h2, gw_good h2⟩
    · exact gw_code (hwd _ (by simp)) w h
  · obtain ⟨cell, g1, g2, g3⟩ := va_recv C.2.2.2.2.2.2.2.1 (hw.one he) hc (q0 := 0) rfl
    exact ⟨cell, g1, g2, g3⟩
  · exact fun U hU hW => pc_here (av := (Value.ref a :: As).map (cV G)) C hw hS U hU hW
  · have e1 : (r.map (cV G)).toList ++ rest.map (cV G) = (r.toList ++ rest).map (cV G) := by cases r <;> simp
    rw [e1]
    exact kk p l e s m args below meth c H1 locs1 ls C X h1 h2 hL
theorem j_callS (hC : Ct G y cc nL ret n mc ms z σ As r z2 σ2) (hd : decode oc pc = .ok (.invokestatic ix, 3)) (hst : st = As.reverse ++ rest) (hwd : WS oR ix y cc nL ret As.length)
    (hrm : n + 1 ≤ T.1.frames ∧ 8 + (nL + 11) + 40 * n ≤ T.1.locals) (hf : kc + mc ≤ T.1.cells ∧ ks + ms ≤ T.1.slots) (hcat : (rest.map fun v => v.category).sum ≤ 8)
    (kk : J G oR oc on ort T z2 σ2 (kc + mc) (ks + ms) (pc + 3) L (r.toList ++ rest)) : J G oR oc on ort T z σ kc ks pc L st := by
  intro p l e s m args below meth c H locs ls C X hw hS hL
  subst hst
  obtain ⟨hwd, hd1, hd2, hd3⟩ := hwd
  have hts := C.2.2.2.2.2.1
  refine W_call (r := r) (z2 := z2) (σ2 := σ2) (rest := rest.map (cV G)) (va_runS (As := As.map (cV G)) ⟨C.1, C.2.1, C.2.2.2.1, C.2.2.2.2.1, hts⟩ (hC l) (va_cwS As.length hts (fun w h => ?_) rfl rfl rfl ⟨hd1, hd2, hd3⟩ hrm) ⟨pc_blind, ?_⟩ rfl (by simp) hL.1 (by simp) (lv_room (by rw [cat_map]; exact hcat)) hd hf) hS (fun H1 locs1 h1 h2 => ?_)
  · unfold va_wsS at h
    rcases List.mem_append.mp h with h | h
    · have h2 : w ∈ gw := hwd w (by simp at h ⊢; rcases h with h | h | h <;> simp [h])
      exact ⟨h2, gw_good h2⟩
    · exact gw_code (hwd _ (by simp)) w h
  · exact fun U hU hW => pc_here (av := As.map (cV G)) C hw hS U hU hW
  · have e1 : (r.map (cV G)).toList ++ rest.map (cV G) = (r.toList ++ rest).map (cV G) := by cases r <;> simp
    rw [e1]
    exact kk p l e s m args below meth c H1 locs1 ls C X h1 h2 hL
/-- the one call of a nest mate: bitOf, out of Town -/
theorem j_bitOf (hM : oR = RX4) (hC : Ct G yX5_bitOf cc nL ret n mc ms z σ As r z2 σ2) (hd : decode oc pc = .ok (.invokestatic 65, 3)) (hst : st = As.reverse ++ rest) (hwd : WN yX5_bitOf cc nL ret As.length)
    (hrm : n + 1 ≤ T.1.frames ∧ 8 + (nL + 11) + 40 * n ≤ T.1.locals) (hf : kc + mc ≤ T.1.cells ∧ ks + ms ≤ T.1.slots) (hcat : (rest.map fun v => v.category).sum ≤ 8)
    (kk : J G oR oc on ort T z2 σ2 (kc + mc) (ks + ms) (pc + 3) L (r.toList ++ rest)) : J G oR oc on ort T z σ kc ks pc L st := by
  intro p l e s m args below meth c H locs ls C X hw hS hL
  subst hst
  obtain ⟨hwd, hd1, hd2, hd3⟩ := hwd
  have hts := C.2.2.2.2.2.1
  have hown : s.vm.findClass RX4 = some m.cls := by rw [← hM]; exact C.2.2.2.2.1
  refine W_call (r := r) (z2 := z2) (σ2 := σ2) (rest := rest.map (cV G)) (va_runSN (As := As.map (cV G)) (Ts := gw) ⟨C.1, C.2.1, C.2.2.2.1, hown, hts⟩ (hC l) ⟨va_cnB As.length hts (gw_code (hwd _ (by simp))) rfl rfl rfl C.2.2.2.2.2.2.2.2.1.2.2.2.2.2.2.1 (hts _ (hwd _ (by simp))) ⟨hd1, hd2, hd3⟩ hrm, hts _ (hwd _ (by simp)), trivial⟩ ⟨pc_blind, ?_⟩ rfl (by simp) hL.1 (by simp) (lv_room (by rw [cat_map]; exact hcat)) hd hf) hS (fun H1 locs1 h1 h2 => ?_)
  · exact fun U hU hW => pc_here (av := As.map (cV G)) C hw hS U hU hW
  · have e1 : (r.map (cV G)).toList ++ rest.map (cV G) = (r.toList ++ rest).map (cV G) := by cases r <;> simp
    rw [e1]
    exact kk p l e s m args below meth c H1 locs1 ls C X h1 h2 hL
theorem j_callI (hC : Ct G y cc nL none n mc ms z σ (.ref a :: As) none z2 σ2) (hd : decode oc pc = .ok (.invokespecial ix, 3)) (hst : st = As.reverse ++ .ref a :: rest) (hwd : WI oR ix y cc nL As.length)
    (hrm : n + 1 ≤ T.1.frames ∧ 8 + (nL + 11) + 40 * n ≤ T.1.locals) (hf : kc + mc ≤ T.1.cells ∧ ks + ms ≤ T.1.slots) (hcat : (rest.map fun v => v.category).sum ≤ 8)
    (kk : J G oR oc on ort T z2 σ2 (kc + mc) (ks + ms) (pc + 3) L rest) : J G oR oc on ort T z σ kc ks pc L st := by
  intro p l e s m args below meth c H locs ls C X hw hS hL
  subst hst
  obtain ⟨hwd, hd0, hd1, hd2, hd3⟩ := hwd
  have hts := C.2.2.2.2.2.1
  refine W_call (r := none) (z2 := z2) (σ2 := σ2) (rest := rest.map (cV G)) (va_runI (As := As.map (cV G)) (b := ad G a) ⟨C.1, C.2.1, C.2.2.2.1, C.2.2.2.2.1, hts⟩ (hC l) (cwI As.length hts (gw_code (hwd _ (by simp))) rfl rfl rfl (hts _ (hwd _ (by simp))) (hts _ (hwd _ (by simp))) (hts _ (hwd _ (by simp))) hd0 ⟨hd1, hd2, hd3⟩ hrm) ⟨pc_blind, ?_⟩ rfl (by simp) hL.1 (by simp [cV]) (lv_room (by rw [cat_map]; exact hcat)) hd hf) hS (fun H1 locs1 h1 h2 => ?_)
  · exact fun U hU hW => pc_here (av := (Value.ref a :: As).map (cV G)) C hw hS U hU hW
  · exact kk p l e s m args below meth c H1 locs1 ls C X h1 h2 hL
theorem j_objInit {ix : Nat} (hd : decode oc pc = .ok (.invokespecial ix, 3)) (h : ∀ w ∈ [Cond.methodLink oR ix objectInit, .instanceMethod objectInit, .code objectInit ⟨#[0xb1]⟩ 1 none], w ∈ gw) (hf : 1 ≤ T.1.frames) (hl : (st.map fun v => v.category).sum + 12 ≤ T.1.locals) (kk : J G oR oc on ort T z σ kc ks (pc + 3) L st) : J G oR oc on ort T z σ kc ks pc L (.ref a :: st) := by
  intro p l e s m args below meth c H locs ls C X hw hS hL
  have hh : ∀ w ∈ [Cond.methodLink oR ix objectInit, .instanceMethod objectInit, .code objectInit ⟨#[0xb1]⟩ 1 none], w.before args s = true := fun w q => C.2.2.2.2.2.1 w (h w q)
  exact W.objInit C.1 C.2.1 C.2.2.2.2.1 (hh _ (by simp)) (hh _ (by simp)) (hh _ (by simp)) rfl (by rw [C.2.2.2.1]; exact hL.1) rfl hd hf (by show 2 * 0 + _ + 12 ≤ _; rw [cat_map]; omega) (kk p l e s m args below meth c H locs ls C X hw hS hL)
end JC2

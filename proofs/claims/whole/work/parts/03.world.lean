/-! THE WORLD: an abstract heap σ (cells by number), laid at G.1 + k in the machine's heap; what lies outside has a number from EXT on -/
abbrev AE : Type := (Nat × Nat × (Nat → Int32)) ⊕ (Nat × Nat × (Nat → Option Nat)) ⊕ (Nat × List Value)
abbrev AH : Type := Nat → Option AE
abbrev GG : Type := Nat × (Nat → ClassId) × (Nat → Nat → Nat) × (Nat → ClassId) × (Nat → Nat)
abbrev EXT : Nat := 1000000
def ad (G : GG) (k : Nat) : Nat := if k < EXT then G.1 + k else G.2.2.2.2 k
def cV (G : GG) : Value → Value
  | .ref k => .ref (ad G k)
  | v => v
def cE (G : GG) : AE → va_E
  | .inl q => .inl (G.2.2.2.1 q.1, q.2.1, .inl q.2.2)
  | .inr (.inl q) => .inl (G.2.2.2.1 q.1, q.2.1, .inr (.inr (.inr (.inr (fun j => (q.2.2 j).map (ad G))))))
  | .inr (.inr q) => .inr (q.1, q.2.map (cV G))
abbrev classes : List vw_C := [(RX0, TX0, 3), (RX1, TX1, 2), (RX2, TX2, 9), (RX3, TX3, 3), (RX4, TX4, 10), (RX5, TX5, 10), (RX6, TX6, 24)]
def tyA : Nat → FieldType
  | 0 => .int
  | 1 => .byte
  | 2 => .boolean
  | 3 => .object RX3
  | _ => .object RX4
def tysG (G : GG) : List (ClassId × FieldType) := [(G.2.2.2.1 0, .int), (G.2.2.2.1 1, .byte), (G.2.2.2.1 2, .boolean), (G.2.2.2.1 3, .object RX3), (G.2.2.2.1 4, .object RX4)]
abbrev DG (G : GG) : va_G := (G.2.1, G.2.2.1)
abbrev AG (G : GG) : Nat → Prop := fun q => G.1 ≤ q
theorem ad_lt {G : GG} {k : Nat} (h : k < EXT) : ad G k = G.1 + k := by unfold ad; rw [if_pos h]
/-- the cells of σ, of which there are z, lie in H -/
def Wc (G : GG) (z : Nat) (σ : AH) (H : Heap) : Prop := H.size = G.1 + z ∧ z ≤ EXT ∧ ∀ (k : Nat) (e : AE), σ k = some e → k < z ∧ va_at (DG G) classes (G.1 + k, cE G e) H
def tb0 : List Int32 := [1, 3, 7, 15, 17, 49]
def tb1 : List Int32 := [10, 11, 11, 12, 13, 14]
def tb2 : List Int32 := [20, 21, 22, 24, 23, 23]
def lenS : List Nat := [3, 6, 5, 4, 4]
def bytS : List (List Int32) := [[108, 97, 119], [112, 101, 114, 115, 111, 110], [104, 101, 100, 103, 101], [111, 112, 101, 110], [111, 119, 101, 115]]
def txS : List String := ["law", "person", "hedge", "open", "owes"]
def idS : List Nat := [49, 71, 79, 81, 87]
/-- what nobody writes: statics, texts, the link of a nest mate's method -/
def Gx (G : GG) (U : State) (H : Heap) : Prop :=
  (va_Z RX5 "KINDS_THAT_ONE_IS" "[I" (.ref (ad G (EXT + 200))) (AG G) U H ∧ va_T .int (ad G (EXT + 200)) 6 (fun j => .int (tb0.getD j 0)) (AG G) U H) ∧
  (va_Z RX1 "SIZE_BODIES" "[I" (.ref (ad G (EXT + 201))) (AG G) U H ∧ va_T .int (ad G (EXT + 201)) 6 (fun j => .int (tb1.getD j 0)) (AG G) U H) ∧
  (va_Z RX1 "MARK_BODIES" "[I" (.ref (ad G (EXT + 202))) (AG G) U H ∧ va_T .int (ad G (EXT + 202)) 6 (fun j => .int (tb2.getD j 0)) (AG G) U H) ∧
  va_Z "java/lang/String" "COMPACT_STRINGS" "Z" (.int 1) (AG G) U H ∧
  vk_S 5 lenS bytS (fun i => ad G (EXT + i)) (fun i => ad G (EXT + 100 + i)) (AG G) U H ∧
  (∀ i : Nat, i < 5 → vk_R RX2 (idS.getD i 0) (txS.getD i "") (ad G (EXT + i)) U) ∧
  va_Nw (.methodLinkNest RX4 65 yX5_bitOf RX5) U ∧ va_AO RX3 U ∧ va_AO RX4 U ∧
  (va_Z "jdk/internal/util/Preconditions" "SIOOBE_FORMATTER" "Ljava/util/function/BiFunction;" .null (AG G) U H ∨ va_Z "jdk/internal/util/Preconditions" "SIOOBE_FORMATTER" "Ljava/util/function/BiFunction;" (.ref (ad G (EXT + 300))) (AG G) U H)
theorem Gx.warm {G : GG} {s U : State} {H : Heap} (hW : s.WarmedH U.vm) (hq : ∀ a : Nat, a < s.heap.size → ¬ AG G a → H[a]? = s.heap[a]?) (h : Gx G s s.heap) : Gx G U H := by
  obtain ⟨⟨a1, a2⟩, ⟨b1, b2⟩, ⟨c1, c2⟩, d1, e1, f1, g1, i1, i2, i3⟩ := h
  have hv := hW.alike
  exact ⟨⟨(a1.moved hv).kept hq, (a2.moved hv).kept hq⟩, ⟨(b1.moved hv).kept hq, (b2.moved hv).kept hq⟩, ⟨(c1.moved hv).kept hq, (c2.moved hv).kept hq⟩, (d1.moved hv).kept hq, (e1.moved hv).kept hq, fun i hi => (f1 i hi).warm hW, va_Nw.warmM hW g1, i1.moved hv, i2.moved hv, i3.elim (fun q => Or.inl ((q.moved hv).kept hq)) (fun q => Or.inr ((q.moved hv).kept hq))⟩
theorem Gx.same {G : GG} {U : State} {g : JFrame} {mk : MethodId} {a : Array Value} (h : Gx G U U.heap) : Gx G (U.calling g mk a) (U.calling g mk a).heap := by
  obtain ⟨⟨a1, a2⟩, ⟨b1, b2⟩, ⟨c1, c2⟩, d1, e1, f1, g1, i1, i2, i3⟩ := h
  have hv : U.vm.Alike (U.calling g mk a).vm := Vm.Alike.refl U.vm
  exact ⟨⟨a1.moved hv, a2.moved hv⟩, ⟨b1.moved hv, b2.moved hv⟩, ⟨c1.moved hv, c2.moved hv⟩, d1.moved hv, e1.moved hv, fun i hi => (f1 i hi).same rfl, g1.same rfl rfl, i1.moved hv, i2.moved hv, i3.elim (fun q => Or.inl (q.moved hv)) (fun q => Or.inr (q.moved hv))⟩
/-- the words of the tables that hold at every later state -/
def gw : List Cond := lw_tbl.filter goodWord
theorem gw_in {w : Cond} (h : w ∈ gw) : w ∈ lw_tbl := (List.mem_filter.mp h).1
theorem gw_good {w : Cond} (h : w ∈ gw) : (w.onTables && w.keeps) = true ∨ ∃ ty, w = .arrayClass ty := good_of_word (List.mem_filter.mp h).2
abbrev MI : Type := String × ByteArray × Nat × Option FieldType
abbrev TG : Type := Room × (List Frame → Array Value → State → State → Prop) × (Method → Array Value → State → Prop)
def Cx (G : GG) (M : MI) (p : Program) (s : State) (m : MethodId) (args : Array Value) (meth : Method) (c : Code) : Prop :=
  p.tables.exec = Jvm.exec ∧ c.code = M.2.1 ∧ meth.sig.returnType = M.2.2.2 ∧ c.maxLocals = M.2.2.1 ∧ s.vm.findClass M.1 = some m.cls ∧ (∀ w ∈ gw, w.before args s = true) ∧ meth.locks = false ∧ va_K (DG G) classes (tysG G) s ∧ Gx G s s.heap ∧ G.1 ≤ s.heap.size
def LH (G : GG) (ls : Array Slot) (nL : Nat) (L : List (Option Value)) : Prop := ls.size = nL ∧ lv_wf ls ∧ ∀ (i : Nat) (v : Value), L[i]? = some (some v) → ls[i]? = some (.val (cV G v))
/-- FROM HERE the method M comes to its end: heap σ of z cells, kc cells of ks slots new, at pc with the locals L and the stack st -/
def J (G : GG) (oR : String) (oc : ByteArray) (on : Nat) (ort : Option FieldType) (T : TG) (z : Nat) (σ : AH) (kc ks pc : Nat) (L : List (Option Value)) (st : List Value) : Prop :=
  ∀ (p : Program) (l : Launch) (e : Env) (s : State) (m : MethodId) (args : Array Value) (below : List Frame) (meth : Method) (c : Code) (H : Heap) (locs : List Loc) (ls : Array Slot),
    Cx G (oR, oc, on, ort) p s m args meth c → T.2.2 meth args s → Wc G z σ H → va_S (AG G) s.heap H locs → LH G ls on L →
    W p l e T.1 s m args below meth c H locs kc ks (T.2.1 below args s) (F0 m pc ls (st.map (cV G)))
abbrev rmm (n mc ms : Nat) : Room := { frames := n, cells := mc, slots := ms, locals := 40 * n }
def Qr (G : GG) (r : Option Value) (z1 : Nat) (σ1 : AH) : Array Value → State → Outcome → State → Prop := fun _ st o t => o = .returned (r.map (cV G)) ∧ Wc G z1 σ1 t.heap ∧ va_F (AG G) st t
abbrev TQ (G : GG) (n mc ms : Nat) (r : Option Value) (z1 : Nat) (σ1 : AH) : TG := (rmm n mc ms, fun below args s => MQ below (Qr G r z1 σ1) args s mc ms (AG G), fun _ _ _ => True)
abbrev TI (G : GG) (n mc ms : Nat) (z1 : Nat) (σ1 : AH) : TG := (rmm n mc ms, fun below args s => MQ below (Qr G none z1 σ1) args s mc ms (AG G), fun meth _ _ => meth.name = "<init>")
/-- A CONTRACT: from the heap σ with args the method y answers r and leaves σ1 -/
def Ct (G : GG) (y : MethodName) (cc : ByteArray) (nL : Nat) (ret : Option FieldType) (n mc ms z : Nat) (σ : AH) (args : List Value) (r : Option Value) (z1 : Nat) (σ1 : AH) : Prop :=
  ∀ l : Launch, Met l y (.code y cc nL ret :: gw) (rmm n mc ms) (va_Pc (args.map (cV G)) (fun U => Wc G z σ U.heap ∧ va_K (DG G) classes (tysG G) U ∧ Gx G U U.heap ∧ G.1 ≤ U.heap.size)) (Qr G r z1 σ1) mc ms (AG G)
/-- the locals at the entry -/
def padL (nL : Nat) (vs : List Value) : List (Option Value) := (vs.flatMap fun v => if v.category = 2 then [some v, none] else [some v]) ++ List.replicate (nL - (vs.flatMap fun v => if v.category = 2 then [some v, none] else [some v]).length) none
theorem cV_cat (G : GG) (v : Value) : (cV G v).category = v.category := by cases v <;> rfl
theorem lg_sl_len (G : GG) (vs : List Value) : (lg_sl (vs.map (cV G))).length = (vs.flatMap fun v => if v.category = 2 then [some v, none] else [some v]).length := by
  induction vs with
  | nil => rfl
  | cons v t ih =>
    simp only [lg_sl, List.map_cons, List.flatMap_cons, List.length_append, cV_cat] at ih ⊢
    rw [ih]
    congr 1
    by_cases h : v.category = 2 <;> simp [h]
theorem lg_sl_at (G : GG) (vs : List Value) : ∀ (i : Nat) (v : Value), (vs.flatMap fun v => if v.category = 2 then [some v, none] else [some v])[i]? = some (some v) → (lg_sl (vs.map (cV G)))[i]? = some (.val (cV G v)) := by
  induction vs with
  | nil => intro i v h; simp at h
  | cons w t ih =>
    intro i v h
    simp only [lg_sl, List.map_cons, List.flatMap_cons, cV_cat] at ih ⊢ h
    by_cases hc : w.category = 2
    · simp only [hc, if_true, List.cons_append, List.nil_append] at h ⊢
      match i with
      | 0 => simp at h; subst h; simp
      | 1 => simp at h
      | i + 2 => simp only [List.getElem?_cons_succ] at h ⊢; exact ih i v h
    · simp only [hc, if_false, List.cons_append, List.nil_append] at h ⊢
      match i with
      | 0 => simp at h; subst h; simp
      | i + 1 => simp only [List.getElem?_cons_succ] at h ⊢; exact ih i v h
theorem LH.entry {G : GG} {nL : Nat} {vs : List Value} (h : (vs.flatMap fun v => if v.category = 2 then [some v, none] else [some v]).length ≤ nL) : LH G ((lg_sl (vs.map (cV G)) ++ List.replicate (nL - (lg_sl (vs.map (cV G))).length) Slot.unset).toArray) nL (padL nL vs) := by
  have h1 := lv_entry (vs.map (cV G)) (n := nL) (by rw [lg_sl_len]; exact h)
  refine ⟨h1.1, h1.2.1, fun i v hi => ?_⟩
  unfold padL at hi
  by_cases hl : i < (vs.flatMap fun v => if v.category = 2 then [some v, none] else [some v]).length
  · rw [List.getElem?_append_left hl] at hi
    have h2 := lg_sl_at G vs i v hi
    simp only [List.getElem?_toArray]
    rw [List.getElem?_append_left (by rw [lg_sl_len]; exact hl)]
    exact h2
  · rw [List.getElem?_append_right (by omega), List.getElem?_replicate] at hi
    split at hi <;> simp at hi
theorem Ct.ofJ {G : GG} {y : MethodName} {cc : ByteArray} {nL : Nat} {ret : Option FieldType} {n mc ms z : Nat} {σ : AH} {args : List Value} {r : Option Value} {z1 : Nat} {σ1 : AH} (R : String) (hR : y.cls = R) (L : List (Option Value)) (hL : padL nL args = L) (hy : plainName y.cls = true) (hn : (args.flatMap fun v => if v.category = 2 then [some v, none] else [some v]).length ≤ nL)
    (h : J G R cc nL ret (TQ G n mc ms r z1 σ1) z σ 0 0 0 L []) : Ct G y cc nL ret n mc ms z σ args r z1 σ1 := by
  intro l
  refine Met.ofW (cc := cc) (maxL := nL) (ret := ret) hy rfl ?_
  intro p e s m as below meth c s₁ B hml hv
  obtain ⟨rfl, hw, hk, hg, hb⟩ := hv
  have hts := atoms_spec (ws := .code y cc nL ret :: gw) B.pre
  rw [lg_entry_eq]
  subst hL; subst hR
  exact h p l e s m _ below meth c s.heap [] _ ⟨B.exec, B.bytes, B.returns, hml, findClass_of_methodNamed B.named, fun w hw => hts w (List.mem_cons_of_mem _ hw), B.notSynchronized, hk, hg, hb⟩ trivial hw va_S.rf (LH.entry hn)
theorem Ct.ofJI {G : GG} {y : MethodName} {cc : ByteArray} {nL : Nat} {ret : Option FieldType} {n mc ms z : Nat} {σ : AH} {args : List Value} {z1 : Nat} {σ1 : AH} (R : String) (hR : y.cls = R) (L : List (Option Value)) (hL : padL nL args = L) (hy : plainName y.cls = true) (hyn : y.name = "<init>") (hn : (args.flatMap fun v => if v.category = 2 then [some v, none] else [some v]).length ≤ nL)
    (h : J G R cc nL ret (TI G n mc ms z1 σ1) z σ 0 0 0 L []) : Ct G y cc nL ret n mc ms z σ args none z1 σ1 := by
  intro l
  refine Met.ofW (cc := cc) (maxL := nL) (ret := ret) hy rfl ?_
  intro p e s m as below meth c s₁ B hml hv
  obtain ⟨rfl, hw, hk, hg, hb⟩ := hv
  have hts := atoms_spec (ws := .code y cc nL ret :: gw) B.pre
  rw [lg_entry_eq]
  subst hL; subst hR
  exact h p l e s m _ below meth c s.heap [] _ ⟨B.exec, B.bytes, B.returns, hml, findClass_of_methodNamed B.named, fun w hw => hts w (List.mem_cons_of_mem _ hw), B.notSynchronized, hk, hg, hb⟩ (by show meth.name = "<init>"; rw [← hyn]; exact (name_of_methodNamed B.named B.method).1) hw va_S.rf (LH.entry hn)

/-! LOCALS: what the kit's list of places says, in our list -/
def prsL (G : GG) (L : List (Option Value)) : List (Nat × Value) := L.zipIdx.filterMap fun q => q.1.map fun v => (q.2, cV G v)
theorem prs_mem {G : GG} {L : List (Option Value)} {i : Nat} {w : Value} : (i, w) ∈ prsL G L ↔ ∃ v, L[i]? = some (some v) ∧ w = cV G v := by
  unfold prsL
  rw [List.mem_filterMap]
  constructor
  · rintro ⟨⟨o, j⟩, hm, ho⟩
    rw [List.mem_zipIdx_iff_getElem?] at hm
    cases o with
    | none => simp at ho
    | some v =>
      simp at ho
      obtain ⟨rfl, rfl⟩ := ho
      exact ⟨v, hm, rfl⟩
  · rintro ⟨v, hv, rfl⟩
    exact ⟨(some v, i), by rw [List.mem_zipIdx_iff_getElem?]; exact hv, rfl⟩
theorem LH.prs {G : GG} {ls : Array Slot} {nL : Nat} {L : List (Option Value)} (h : LH G ls nL L) : lv_has ls nL (prsL G L) := by
  refine ⟨h.1, h.2.1, fun q hq => ?_⟩
  obtain ⟨v, h1, h2⟩ := prs_mem.mp (show (q.1, q.2) ∈ prsL G L from hq)
  rw [h2]
  exact h.2.2 q.1 v h1
theorem LH.at {G : GG} {ls : Array Slot} {nL : Nat} {L : List (Option Value)} (_ : LH G ls nL L) {i : Nat} {x : Int32} (hx : L[i]? = some (some (.int x))) : ∃ q : Nat, (prsL G L)[q]? = some (i, Value.int x) := List.getElem?_of_mem (prs_mem.mpr ⟨_, hx, rfl⟩)
/-- no long lies in the place ahead -/
def lok (L : List (Option Value)) : Nat → Bool
  | 0 => true
  | i + 1 => match L[i]? with
    | some (some (.long _)) => false
    | some (some (.double _)) => false
    | _ => true
theorem lok_cat {L : List (Option Value)} {i j : Nat} {v : Value} (h : lok L i = true) (hv : L[j]? = some (some v)) (hj : j + 1 = i) : ¬ v.category = 2 := by
  subst hj
  cases v <;> simp [lok, hv, Value.category] at h ⊢
theorem LH.set {G : GG} {ls ls1 : Array Slot} {nL : Nat} {L : List (Option Value)} (_ : LH G ls nL L) {i : Nat} {v : Value} (hc : lok L i = true) (h1 : lv_has ls1 nL ((i, cV G v) :: (prsL G L).filter (fun q => !(q.1 == i) && !(q.1 + 1 == i && q.2.category == 2)))) : LH G ls1 nL (L.set i (some v)) := by
  refine ⟨h1.1, h1.2.1, fun j w hj => ?_⟩
  by_cases hij : j = i
  · subst hij
    have hl : j < L.length := by
      have := (List.getElem?_eq_some_iff.mp hj).1
      simpa using this
    rw [List.getElem?_set_self hl] at hj
    cases hj
    exact h1.2.2 (j, cV G v) List.mem_cons_self
  · rw [List.getElem?_set_ne (Ne.symm hij)] at hj
    refine h1.2.2 (j, cV G w) (List.mem_cons_of_mem _ (List.mem_filter.mpr ⟨prs_mem.mpr ⟨w, hj, rfl⟩, ?_⟩))
    by_cases hji : j + 1 = i
    · have := lok_cat hc hj hji
      simp [hij, cV_cat, this]
    · simp [hij, hji]
theorem LH.set2 {G : GG} {ls ls1 : Array Slot} {nL : Nat} {L : List (Option Value)} (_ : LH G ls nL L) {i : Nat} {v : Value} (hc : lok L i = true) (h1 : lv_has ls1 nL ((i, cV G v) :: (prsL G L).filter (fun q => !(q.1 == i) && (!(q.1 == i + 1) && !(q.1 + 1 == i && q.2.category == 2))))) : LH G ls1 nL ((L.set i (some v)).set (i + 1) none) := by
  refine ⟨h1.1, h1.2.1, fun j w hj => ?_⟩
  by_cases hj1 : j = i + 1
  · subst hj1
    have hl : i + 1 < (L.set i (some v)).length := by
      have := (List.getElem?_eq_some_iff.mp hj).1
      simpa using this
    rw [List.getElem?_set_self hl] at hj
    cases hj
  · rw [List.getElem?_set_ne (Ne.symm hj1)] at hj
    by_cases hij : j = i
    · subst hij
      have hl : j < L.length := by
        have := (List.getElem?_eq_some_iff.mp hj).1
        simpa using this
      rw [List.getElem?_set_self hl] at hj
      cases hj
      exact h1.2.2 (j, cV G v) List.mem_cons_self
    · rw [List.getElem?_set_ne (Ne.symm hij)] at hj
      refine h1.2.2 (j, cV G w) (List.mem_cons_of_mem _ (List.mem_filter.mpr ⟨prs_mem.mpr ⟨w, hj, rfl⟩, ?_⟩))
      by_cases hji : j + 1 = i
      · have := lok_cat hc hj hji
        simp [hij, hj1, cV_cat, this]
      · simp [hij, hj1, hji]
/-! ROWS OF J, one an instruction (printed by wip/tools/mkrows.py) -/
section JR
variable {G : GG} {oR : String} {oc : ByteArray} {on : Nat} {ort : Option FieldType} {T : TG} {z kc ks pc : Nat} {σ : AH} {L : List (Option Value)} {st : List Value}
theorem j_iconst {n : Int} (v : Int32) (hd : decode oc pc = .ok (.iconst n, 1)) (hv : Int32.ofInt n = v) (k : J G oR oc on ort T z σ kc ks (pc + 1) L (.int v :: st)) : J G oR oc on ort T z σ kc ks pc L st := by
  intro p l e s m args below meth c H locs ls C X hw hS hL
  exact lv_iconst C.1 C.2.1 hd hv (k p l e s m args below meth c H locs ls C X hw hS hL)
theorem j_bipush {n : Int} (v : Int32) (hd : decode oc pc = .ok (.bipush n, 2)) (hv : (Int8.ofInt n).toInt32 = v) (k : J G oR oc on ort T z σ kc ks (pc + 2) L (.int v :: st)) : J G oR oc on ort T z σ kc ks pc L st := by
  intro p l e s m args below meth c H locs ls C X hw hS hL
  exact lv_bipush C.1 C.2.1 hd hv (k p l e s m args below meth c H locs ls C X hw hS hL)
theorem j_sipush {n : Int} (v : Int32) (hd : decode oc pc = .ok (.sipush n, 3)) (hv : (Int16.ofInt n).toInt32 = v) (k : J G oR oc on ort T z σ kc ks (pc + 3) L (.int v :: st)) : J G oR oc on ort T z σ kc ks pc L st := by
  intro p l e s m args below meth c H locs ls C X hw hS hL
  exact lv_sipush C.1 C.2.1 hd hv (k p l e s m args below meth c H locs ls C X hw hS hL)
theorem j_lconst {n : Fin 2} (v : Int64) (hd : decode oc pc = .ok (.lconst n, 1)) (hv : Int64.ofNat (n : Nat) = v) (k : J G oR oc on ort T z σ kc ks (pc + 1) L (.long v :: st)) : J G oR oc on ort T z σ kc ks pc L st := by
  intro p l e s m args below meth c H locs ls C X hw hS hL
  exact lv_lconst C.1 C.2.1 hd hv (k p l e s m args below meth c H locs ls C X hw hS hL)
theorem j_ldc {ix : Nat} (v : Int32) (hd : decode oc pc = .ok (.ldc ix, 2)) (hw0 : Cond.constant oR ix v ∈ gw) (k : J G oR oc on ort T z σ kc ks (pc + 2) L (.int v :: st)) : J G oR oc on ort T z σ kc ks pc L st := by
  intro p l e s m args below meth c H locs ls C X hw hS hL
  exact lv_ldc C.1 C.2.1 C.2.2.2.2.1 (C.2.2.2.2.2.1 _ hw0) hd (k p l e s m args below meth c H locs ls C X hw hS hL)
theorem j_ldc2 {ix : Nat} (v : Int64) (hd : decode oc pc = .ok (.ldc2_w ix, 3)) (hw0 : Cond.constantLong oR ix v ∈ gw) (k : J G oR oc on ort T z σ kc ks (pc + 3) L (.long v :: st)) : J G oR oc on ort T z σ kc ks pc L st := by
  intro p l e s m args below meth c H locs ls C X hw hS hL
  exact lv_ldc2 C.1 C.2.1 C.2.2.2.2.1 (C.2.2.2.2.2.1 _ hw0) hd (k p l e s m args below meth c H locs ls C X hw hS hL)
theorem j_iload_n {q : Fin 4} {i : Nat} {x : Int32} (hd : decode oc pc = .ok (.iload_n q, 1)) (hi : (q : Nat) = i) (hx : L[i]? = some (some (.int x))) (k : J G oR oc on ort T z σ kc ks (pc + 1) L (.int x :: st)) : J G oR oc on ort T z σ kc ks pc L st := by
  intro p l e s m args below meth c H locs ls C X hw hS hL
  exact lv_iload_n C.1 C.2.1 hd hi (hL.2.2 i _ hx) (k p l e s m args below meth c H locs ls C X hw hS hL)
theorem j_iload {i : Nat} {x : Int32} (hd : decode oc pc = .ok (.iload i, 2)) (hx : L[i]? = some (some (.int x))) (k : J G oR oc on ort T z σ kc ks (pc + 2) L (.int x :: st)) : J G oR oc on ort T z σ kc ks pc L st := by
  intro p l e s m args below meth c H locs ls C X hw hS hL
  exact lv_iload C.1 C.2.1 hd (hL.2.2 i _ hx) (k p l e s m args below meth c H locs ls C X hw hS hL)
theorem j_lload_n {q : Fin 4} {i : Nat} {x : Int64} (hd : decode oc pc = .ok (.lload_n q, 1)) (hi : (q : Nat) = i) (hx : L[i]? = some (some (.long x))) (k : J G oR oc on ort T z σ kc ks (pc + 1) L (.long x :: st)) : J G oR oc on ort T z σ kc ks pc L st := by
  intro p l e s m args below meth c H locs ls C X hw hS hL
  exact lv_lload_n C.1 C.2.1 hd hi (hL.2.2 i _ hx) (k p l e s m args below meth c H locs ls C X hw hS hL)
theorem j_lload {i : Nat} {x : Int64} (hd : decode oc pc = .ok (.lload i, 2)) (hx : L[i]? = some (some (.long x))) (k : J G oR oc on ort T z σ kc ks (pc + 2) L (.long x :: st)) : J G oR oc on ort T z σ kc ks pc L st := by
  intro p l e s m args below meth c H locs ls C X hw hS hL
  exact lv_lload C.1 C.2.1 hd (hL.2.2 i _ hx) (k p l e s m args below meth c H locs ls C X hw hS hL)
theorem j_aload_n {q : Fin 4} {i : Nat} {x : Nat} (hd : decode oc pc = .ok (.aload_n q, 1)) (hi : (q : Nat) = i) (hx : L[i]? = some (some (.ref x))) (k : J G oR oc on ort T z σ kc ks (pc + 1) L (.ref x :: st)) : J G oR oc on ort T z σ kc ks pc L st := by
  intro p l e s m args below meth c H locs ls C X hw hS hL
  exact lv_aload_n C.1 C.2.1 hd hi (hL.2.2 i _ hx) (k p l e s m args below meth c H locs ls C X hw hS hL)
theorem j_aload {i : Nat} {x : Nat} (hd : decode oc pc = .ok (.aload i, 2)) (hx : L[i]? = some (some (.ref x))) (k : J G oR oc on ort T z σ kc ks (pc + 2) L (.ref x :: st)) : J G oR oc on ort T z σ kc ks pc L st := by
  intro p l e s m args below meth c H locs ls C X hw hS hL
  exact lv_aload C.1 C.2.1 hd (hL.2.2 i _ hx) (k p l e s m args below meth c H locs ls C X hw hS hL)
theorem j_istore_n {q : Fin 4} {i : Nat} {x : Int32} (hd : decode oc pc = .ok (.istore_n q, 1)) (hi : (q : Nat) = i) (hn : i < on) (hc : lok L i = true) (k : J G oR oc on ort T z σ kc ks (pc + 1) (L.set i (some (.int x))) st) : J G oR oc on ort T z σ kc ks pc L (.int x :: st) := by
  intro p l e s m args below meth c H locs ls C X hw hS hL
  refine lv_istore_n C.1 C.2.1 hd hi (LH.prs hL) hn rfl fun ls1 h1 => ?_
  exact k p l e s m args below meth c H locs ls1 C X hw hS (LH.set hL hc h1)
theorem j_istore {i : Nat} {x : Int32} (hd : decode oc pc = .ok (.istore i, 2)) (hn : i < on) (hc : lok L i = true) (k : J G oR oc on ort T z σ kc ks (pc + 2) (L.set i (some (.int x))) st) : J G oR oc on ort T z σ kc ks pc L (.int x :: st) := by
  intro p l e s m args below meth c H locs ls C X hw hS hL
  refine lv_istore C.1 C.2.1 hd (LH.prs hL) hn rfl fun ls1 h1 => ?_
  exact k p l e s m args below meth c H locs ls1 C X hw hS (LH.set hL hc h1)
theorem j_astore_n {q : Fin 4} {i : Nat} {x : Nat} (hd : decode oc pc = .ok (.astore_n q, 1)) (hi : (q : Nat) = i) (hn : i < on) (hc : lok L i = true) (k : J G oR oc on ort T z σ kc ks (pc + 1) (L.set i (some (.ref x))) st) : J G oR oc on ort T z σ kc ks pc L (.ref x :: st) := by
  intro p l e s m args below meth c H locs ls C X hw hS hL
  refine lv_astore_n C.1 C.2.1 hd hi (LH.prs hL) hn rfl fun ls1 h1 => ?_
  exact k p l e s m args below meth c H locs ls1 C X hw hS (LH.set hL hc h1)
theorem j_astore {i : Nat} {x : Nat} (hd : decode oc pc = .ok (.astore i, 2)) (hn : i < on) (hc : lok L i = true) (k : J G oR oc on ort T z σ kc ks (pc + 2) (L.set i (some (.ref x))) st) : J G oR oc on ort T z σ kc ks pc L (.ref x :: st) := by
  intro p l e s m args below meth c H locs ls C X hw hS hL
  refine lv_astore C.1 C.2.1 hd (LH.prs hL) hn rfl fun ls1 h1 => ?_
  exact k p l e s m args below meth c H locs ls1 C X hw hS (LH.set hL hc h1)
theorem j_lstore_n {q : Fin 4} {i : Nat} {x : Int64} (hd : decode oc pc = .ok (.lstore_n q, 1)) (hi : (q : Nat) = i) (hn : i + 1 < on) (hc : lok L i = true) (k : J G oR oc on ort T z σ kc ks (pc + 1) ((L.set i (some (.long x))).set (i + 1) none) st) : J G oR oc on ort T z σ kc ks pc L (.long x :: st) := by
  intro p l e s m args below meth c H locs ls C X hw hS hL
  refine lv_lstore_n C.1 C.2.1 hd hi (LH.prs hL) hn rfl fun ls1 h1 => ?_
  exact k p l e s m args below meth c H locs ls1 C X hw hS (LH.set2 hL hc h1)
theorem j_lstore {i : Nat} {x : Int64} (hd : decode oc pc = .ok (.lstore i, 2)) (hn : i + 1 < on) (hc : lok L i = true) (k : J G oR oc on ort T z σ kc ks (pc + 2) ((L.set i (some (.long x))).set (i + 1) none) st) : J G oR oc on ort T z σ kc ks pc L (.long x :: st) := by
  intro p l e s m args below meth c H locs ls C X hw hS hL
  refine lv_lstore C.1 C.2.1 hd (LH.prs hL) hn rfl fun ls1 h1 => ?_
  exact k p l e s m args below meth c H locs ls1 C X hw hS (LH.set2 hL hc h1)
theorem j_iinc {i : Nat} {n : Int} {x : Int32} (v : Int32) (hd : decode oc pc = .ok (.iinc i n, 3)) (hx : L[i]? = some (some (.int x))) (hv : x + Int32.ofInt n = v) (hn : i < on) (hc : lok L i = true) (k : J G oR oc on ort T z σ kc ks (pc + 3) (L.set i (some (.int v))) st) : J G oR oc on ort T z σ kc ks pc L st := by
  intro p l e s m args below meth c H locs ls C X hw hS hL
  obtain ⟨q, hq⟩ := LH.at hL hx
  refine lv_iinc C.1 C.2.1 hd (LH.prs hL) (k := q) hq hv hn rfl fun ls1 h1 => ?_
  exact k p l e s m args below meth c H locs ls1 C X hw hS (LH.set hL hc h1)
theorem j_iadd {x y : Int32} (hd : decode oc pc = .ok (.iadd, 1)) (k : J G oR oc on ort T z σ kc ks (pc + 1) L (.int (x + y) :: st)) : J G oR oc on ort T z σ kc ks pc L (.int y :: .int x :: st) := by
  intro p l e s m args below meth c H locs ls C X hw hS hL
  exact lv_iadd C.1 C.2.1 hd (k p l e s m args below meth c H locs ls C X hw hS hL)
theorem j_isub {x y : Int32} (hd : decode oc pc = .ok (.isub, 1)) (k : J G oR oc on ort T z σ kc ks (pc + 1) L (.int (x - y) :: st)) : J G oR oc on ort T z σ kc ks pc L (.int y :: .int x :: st) := by
  intro p l e s m args below meth c H locs ls C X hw hS hL
  exact lv_isub C.1 C.2.1 hd (k p l e s m args below meth c H locs ls C X hw hS hL)
theorem j_imul {x y : Int32} (hd : decode oc pc = .ok (.imul, 1)) (k : J G oR oc on ort T z σ kc ks (pc + 1) L (.int (x * y) :: st)) : J G oR oc on ort T z σ kc ks pc L (.int y :: .int x :: st) := by
  intro p l e s m args below meth c H locs ls C X hw hS hL
  exact lv_imul C.1 C.2.1 hd (k p l e s m args below meth c H locs ls C X hw hS hL)
theorem j_ishl {x y : Int32} (hd : decode oc pc = .ok (.ishl, 1)) (k : J G oR oc on ort T z σ kc ks (pc + 1) L (.int (x <<< (y &&& 31)) :: st)) : J G oR oc on ort T z σ kc ks pc L (.int y :: .int x :: st) := by
  intro p l e s m args below meth c H locs ls C X hw hS hL
  exact lv_ishl C.1 C.2.1 hd (k p l e s m args below meth c H locs ls C X hw hS hL)
theorem j_ishr {x y : Int32} (hd : decode oc pc = .ok (.ishr, 1)) (k : J G oR oc on ort T z σ kc ks (pc + 1) L (.int (x >>> (y &&& 31)) :: st)) : J G oR oc on ort T z σ kc ks pc L (.int y :: .int x :: st) := by
  intro p l e s m args below meth c H locs ls C X hw hS hL
  exact lv_ishr C.1 C.2.1 hd (k p l e s m args below meth c H locs ls C X hw hS hL)
theorem j_iand {x y : Int32} (hd : decode oc pc = .ok (.iand, 1)) (k : J G oR oc on ort T z σ kc ks (pc + 1) L (.int (x &&& y) :: st)) : J G oR oc on ort T z σ kc ks pc L (.int y :: .int x :: st) := by
  intro p l e s m args below meth c H locs ls C X hw hS hL
  exact lv_iand C.1 C.2.1 hd (k p l e s m args below meth c H locs ls C X hw hS hL)
theorem j_ior {x y : Int32} (hd : decode oc pc = .ok (.ior, 1)) (k : J G oR oc on ort T z σ kc ks (pc + 1) L (.int (x ||| y) :: st)) : J G oR oc on ort T z σ kc ks pc L (.int y :: .int x :: st) := by
  intro p l e s m args below meth c H locs ls C X hw hS hL
  exact lv_ior C.1 C.2.1 hd (k p l e s m args below meth c H locs ls C X hw hS hL)
theorem j_ixor {x y : Int32} (hd : decode oc pc = .ok (.ixor, 1)) (k : J G oR oc on ort T z σ kc ks (pc + 1) L (.int (x ^^^ y) :: st)) : J G oR oc on ort T z σ kc ks pc L (.int y :: .int x :: st) := by
  intro p l e s m args below meth c H locs ls C X hw hS hL
  exact lv_ixor C.1 C.2.1 hd (k p l e s m args below meth c H locs ls C X hw hS hL)
theorem j_idiv {x y : Int32} (hd : decode oc pc = .ok (.idiv, 1)) (hne : ¬ y = 0) (k : J G oR oc on ort T z σ kc ks (pc + 1) L (.int (x / y) :: st)) : J G oR oc on ort T z σ kc ks pc L (.int y :: .int x :: st) := by
  intro p l e s m args below meth c H locs ls C X hw hS hL
  exact lv_idiv C.1 C.2.1 hd hne (k p l e s m args below meth c H locs ls C X hw hS hL)
theorem j_irem {x y : Int32} (hd : decode oc pc = .ok (.irem, 1)) (hne : ¬ y = 0) (k : J G oR oc on ort T z σ kc ks (pc + 1) L (.int (x - x / y * y) :: st)) : J G oR oc on ort T z σ kc ks pc L (.int y :: .int x :: st) := by
  intro p l e s m args below meth c H locs ls C X hw hS hL
  exact lv_irem C.1 C.2.1 hd hne (k p l e s m args below meth c H locs ls C X hw hS hL)
theorem j_ineg {x : Int32} (hd : decode oc pc = .ok (.ineg, 1)) (k : J G oR oc on ort T z σ kc ks (pc + 1) L (.int (-x) :: st)) : J G oR oc on ort T z σ kc ks pc L (.int x :: st) := by
  intro p l e s m args below meth c H locs ls C X hw hS hL
  exact lv_ineg C.1 C.2.1 hd (k p l e s m args below meth c H locs ls C X hw hS hL)
theorem j_ladd {x y : Int64} (hd : decode oc pc = .ok (.ladd, 1)) (k : J G oR oc on ort T z σ kc ks (pc + 1) L (.long (x + y) :: st)) : J G oR oc on ort T z σ kc ks pc L (.long y :: .long x :: st) := by
  intro p l e s m args below meth c H locs ls C X hw hS hL
  exact lv_ladd C.1 C.2.1 hd (k p l e s m args below meth c H locs ls C X hw hS hL)
theorem j_lsub {x y : Int64} (hd : decode oc pc = .ok (.lsub, 1)) (k : J G oR oc on ort T z σ kc ks (pc + 1) L (.long (x - y) :: st)) : J G oR oc on ort T z σ kc ks pc L (.long y :: .long x :: st) := by
  intro p l e s m args below meth c H locs ls C X hw hS hL
  exact lv_lsub C.1 C.2.1 hd (k p l e s m args below meth c H locs ls C X hw hS hL)
theorem j_lmul {x y : Int64} (hd : decode oc pc = .ok (.lmul, 1)) (k : J G oR oc on ort T z σ kc ks (pc + 1) L (.long (x * y) :: st)) : J G oR oc on ort T z σ kc ks pc L (.long y :: .long x :: st) := by
  intro p l e s m args below meth c H locs ls C X hw hS hL
  exact lv_lmul C.1 C.2.1 hd (k p l e s m args below meth c H locs ls C X hw hS hL)
theorem j_land {x y : Int64} (hd : decode oc pc = .ok (.land, 1)) (k : J G oR oc on ort T z σ kc ks (pc + 1) L (.long (x &&& y) :: st)) : J G oR oc on ort T z σ kc ks pc L (.long y :: .long x :: st) := by
  intro p l e s m args below meth c H locs ls C X hw hS hL
  exact lv_land C.1 C.2.1 hd (k p l e s m args below meth c H locs ls C X hw hS hL)
theorem j_lor {x y : Int64} (hd : decode oc pc = .ok (.lor, 1)) (k : J G oR oc on ort T z σ kc ks (pc + 1) L (.long (x ||| y) :: st)) : J G oR oc on ort T z σ kc ks pc L (.long y :: .long x :: st) := by
  intro p l e s m args below meth c H locs ls C X hw hS hL
  exact lv_lor C.1 C.2.1 hd (k p l e s m args below meth c H locs ls C X hw hS hL)
theorem j_lrem {x y : Int64} (hd : decode oc pc = .ok (.lrem, 1)) (hne : ¬ y = 0) (k : J G oR oc on ort T z σ kc ks (pc + 1) L (.long (x - x / y * y) :: st)) : J G oR oc on ort T z σ kc ks pc L (.long y :: .long x :: st) := by
  intro p l e s m args below meth c H locs ls C X hw hS hL
  exact lv_lrem C.1 C.2.1 hd hne (k p l e s m args below meth c H locs ls C X hw hS hL)
theorem j_lshl {x : Int64} {y : Int32} (hd : decode oc pc = .ok (.lshl, 1)) (k : J G oR oc on ort T z σ kc ks (pc + 1) L (.long (x <<< (y.toInt64 &&& 63)) :: st)) : J G oR oc on ort T z σ kc ks pc L (.int y :: .long x :: st) := by
  intro p l e s m args below meth c H locs ls C X hw hS hL
  exact lv_lshl C.1 C.2.1 hd rfl (k p l e s m args below meth c H locs ls C X hw hS hL)
theorem j_lshr {x : Int64} {y : Int32} (hd : decode oc pc = .ok (.lshr, 1)) (k : J G oR oc on ort T z σ kc ks (pc + 1) L (.long (x >>> (y.toInt64 &&& 63)) :: st)) : J G oR oc on ort T z σ kc ks pc L (.int y :: .long x :: st) := by
  intro p l e s m args below meth c H locs ls C X hw hS hL
  exact lv_lshr C.1 C.2.1 hd rfl (k p l e s m args below meth c H locs ls C X hw hS hL)
theorem j_lcmp {x y : Int64} (hd : decode oc pc = .ok (.lcmp, 1)) (k : J G oR oc on ort T z σ kc ks (pc + 1) L (.int (lg_cmp x y) :: st)) : J G oR oc on ort T z σ kc ks pc L (.long y :: .long x :: st) := by
  intro p l e s m args below meth c H locs ls C X hw hS hL
  exact W.lcmp C.1 C.2.1 hd (k p l e s m args below meth c H locs ls C X hw hS hL)
theorem j_i2b {x : Int32} (hd : decode oc pc = .ok (.i2b, 1)) (k : J G oR oc on ort T z σ kc ks (pc + 1) L (.int (x.toInt8.toInt32) :: st)) : J G oR oc on ort T z σ kc ks pc L (.int x :: st) := by
  intro p l e s m args below meth c H locs ls C X hw hS hL
  exact lv_i2b C.1 C.2.1 hd rfl (k p l e s m args below meth c H locs ls C X hw hS hL)
theorem j_i2s {x : Int32} (hd : decode oc pc = .ok (.i2s, 1)) (k : J G oR oc on ort T z σ kc ks (pc + 1) L (.int (x.toInt16.toInt32) :: st)) : J G oR oc on ort T z σ kc ks pc L (.int x :: st) := by
  intro p l e s m args below meth c H locs ls C X hw hS hL
  exact lv_i2s C.1 C.2.1 hd rfl (k p l e s m args below meth c H locs ls C X hw hS hL)
theorem j_i2c {x : Int32} (hd : decode oc pc = .ok (.i2c, 1)) (k : J G oR oc on ort T z σ kc ks (pc + 1) L (.int ((x.toUInt32 % 65536).toInt32) :: st)) : J G oR oc on ort T z σ kc ks pc L (.int x :: st) := by
  intro p l e s m args below meth c H locs ls C X hw hS hL
  exact lv_i2c C.1 C.2.1 hd rfl (k p l e s m args below meth c H locs ls C X hw hS hL)
theorem j_i2l {x : Int32} (hd : decode oc pc = .ok (.i2l, 1)) (k : J G oR oc on ort T z σ kc ks (pc + 1) L (.long (x.toInt64) :: st)) : J G oR oc on ort T z σ kc ks pc L (.int x :: st) := by
  intro p l e s m args below meth c H locs ls C X hw hS hL
  exact lv_i2l C.1 C.2.1 hd rfl (k p l e s m args below meth c H locs ls C X hw hS hL)
theorem j_l2i {x : Int64} (hd : decode oc pc = .ok (.l2i, 1)) (k : J G oR oc on ort T z σ kc ks (pc + 1) L (.int (x.toInt32) :: st)) : J G oR oc on ort T z σ kc ks pc L (.long x :: st) := by
  intro p l e s m args below meth c H locs ls C X hw hS hL
  exact lv_l2i C.1 C.2.1 hd rfl (k p l e s m args below meth c H locs ls C X hw hS hL)
theorem j_dup {v : Value} (hd : decode oc pc = .ok (.dup, 1)) (hv : v.category = 1) (k : J G oR oc on ort T z σ kc ks (pc + 1) L (v :: v :: st)) : J G oR oc on ort T z σ kc ks pc L (v :: st) := by
  intro p l e s m args below meth c H locs ls C X hw hS hL
  exact lv_dup C.1 C.2.1 hd (by rw [cV_cat]; exact hv) (k p l e s m args below meth c H locs ls C X hw hS hL)
theorem j_dup2 {v w : Value} (hd : decode oc pc = .ok (.dup2, 1)) (hv : v.category = 1) (hw9 : w.category = 1) (k : J G oR oc on ort T z σ kc ks (pc + 1) L (v :: w :: v :: w :: st)) : J G oR oc on ort T z σ kc ks pc L (v :: w :: st) := by
  intro p l e s m args below meth c H locs ls C X hw hS hL
  exact lv_dup2_11 C.1 C.2.1 hd (by rw [cV_cat]; exact hv) (by rw [cV_cat]; exact hw9) (k p l e s m args below meth c H locs ls C X hw hS hL)
theorem j_pop {v : Value} (hd : decode oc pc = .ok (.pop, 1)) (hv : v.category = 1) (k : J G oR oc on ort T z σ kc ks (pc + 1) L st) : J G oR oc on ort T z σ kc ks pc L (v :: st) := by
  intro p l e s m args below meth c H locs ls C X hw hS hL
  exact lv_pop C.1 C.2.1 hd (by rw [cV_cat]; exact hv) (k p l e s m args below meth c H locs ls C X hw hS hL)
theorem j_goto {off : Int} (tgt : Nat) (hd : decode oc pc = .ok (.goto off, 3)) (ht : (pc : Int) + off = (tgt : Int)) (k : J G oR oc on ort T z σ kc ks tgt L st) : J G oR oc on ort T z σ kc ks pc L st := by
  intro p l e s m args below meth c H locs ls C X hw hS hL
  exact lv_goto C.1 C.2.1 hd ht (k p l e s m args below meth c H locs ls C X hw hS hL)
theorem j_if_eq {x : Int32} {off : Int} (tgt : Nat) (hd : decode oc pc = .ok (.ifCond .eq off, 3)) (ht : (pc : Int) + off = (tgt : Int)) (kt : (x = 0) → J G oR oc on ort T z σ kc ks tgt L st) (kf : (¬ x = 0) → J G oR oc on ort T z σ kc ks (pc + 3) L st) : J G oR oc on ort T z σ kc ks pc L (.int x :: st) := by
  intro p l e s m args below meth c H locs ls C X hw hS hL
  exact lv_if_eq C.1 C.2.1 hd ht (fun q => kt q p l e s m args below meth c H locs ls C X hw hS hL) (fun q => kf q p l e s m args below meth c H locs ls C X hw hS hL)
theorem j_if_ne {x : Int32} {off : Int} (tgt : Nat) (hd : decode oc pc = .ok (.ifCond .ne off, 3)) (ht : (pc : Int) + off = (tgt : Int)) (kt : (¬ x = 0) → J G oR oc on ort T z σ kc ks tgt L st) (kf : (x = 0) → J G oR oc on ort T z σ kc ks (pc + 3) L st) : J G oR oc on ort T z σ kc ks pc L (.int x :: st) := by
  intro p l e s m args below meth c H locs ls C X hw hS hL
  exact lv_if_ne C.1 C.2.1 hd ht (fun q => kt q p l e s m args below meth c H locs ls C X hw hS hL) (fun q => kf q p l e s m args below meth c H locs ls C X hw hS hL)
theorem j_if_lt {x : Int32} {off : Int} (tgt : Nat) (hd : decode oc pc = .ok (.ifCond .lt off, 3)) (ht : (pc : Int) + off = (tgt : Int)) (kt : (x < 0) → J G oR oc on ort T z σ kc ks tgt L st) (kf : (¬ x < 0) → J G oR oc on ort T z σ kc ks (pc + 3) L st) : J G oR oc on ort T z σ kc ks pc L (.int x :: st) := by
  intro p l e s m args below meth c H locs ls C X hw hS hL
  exact lv_if_lt C.1 C.2.1 hd ht (fun q => kt q p l e s m args below meth c H locs ls C X hw hS hL) (fun q => kf q p l e s m args below meth c H locs ls C X hw hS hL)
theorem j_if_ge {x : Int32} {off : Int} (tgt : Nat) (hd : decode oc pc = .ok (.ifCond .ge off, 3)) (ht : (pc : Int) + off = (tgt : Int)) (kt : (0 ≤ x) → J G oR oc on ort T z σ kc ks tgt L st) (kf : (¬ 0 ≤ x) → J G oR oc on ort T z σ kc ks (pc + 3) L st) : J G oR oc on ort T z σ kc ks pc L (.int x :: st) := by
  intro p l e s m args below meth c H locs ls C X hw hS hL
  exact lv_if_ge C.1 C.2.1 hd ht (fun q => kt q p l e s m args below meth c H locs ls C X hw hS hL) (fun q => kf q p l e s m args below meth c H locs ls C X hw hS hL)
theorem j_if_gt {x : Int32} {off : Int} (tgt : Nat) (hd : decode oc pc = .ok (.ifCond .gt off, 3)) (ht : (pc : Int) + off = (tgt : Int)) (kt : (0 < x) → J G oR oc on ort T z σ kc ks tgt L st) (kf : (¬ 0 < x) → J G oR oc on ort T z σ kc ks (pc + 3) L st) : J G oR oc on ort T z σ kc ks pc L (.int x :: st) := by
  intro p l e s m args below meth c H locs ls C X hw hS hL
  exact lv_if_gt C.1 C.2.1 hd ht (fun q => kt q p l e s m args below meth c H locs ls C X hw hS hL) (fun q => kf q p l e s m args below meth c H locs ls C X hw hS hL)
theorem j_if_le {x : Int32} {off : Int} (tgt : Nat) (hd : decode oc pc = .ok (.ifCond .le off, 3)) (ht : (pc : Int) + off = (tgt : Int)) (kt : (x ≤ 0) → J G oR oc on ort T z σ kc ks tgt L st) (kf : (¬ x ≤ 0) → J G oR oc on ort T z σ kc ks (pc + 3) L st) : J G oR oc on ort T z σ kc ks pc L (.int x :: st) := by
  intro p l e s m args below meth c H locs ls C X hw hS hL
  exact lv_if_le C.1 C.2.1 hd ht (fun q => kt q p l e s m args below meth c H locs ls C X hw hS hL) (fun q => kf q p l e s m args below meth c H locs ls C X hw hS hL)
theorem j_icmp_eq {x y : Int32} {off : Int} (tgt : Nat) (hd : decode oc pc = .ok (.if_icmp .eq off, 3)) (ht : (pc : Int) + off = (tgt : Int)) (kt : (x = y) → J G oR oc on ort T z σ kc ks tgt L st) (kf : (¬ x = y) → J G oR oc on ort T z σ kc ks (pc + 3) L st) : J G oR oc on ort T z σ kc ks pc L (.int y :: .int x :: st) := by
  intro p l e s m args below meth c H locs ls C X hw hS hL
  exact lv_icmp_eq C.1 C.2.1 hd ht (fun q => kt q p l e s m args below meth c H locs ls C X hw hS hL) (fun q => kf q p l e s m args below meth c H locs ls C X hw hS hL)
theorem j_icmp_ne {x y : Int32} {off : Int} (tgt : Nat) (hd : decode oc pc = .ok (.if_icmp .ne off, 3)) (ht : (pc : Int) + off = (tgt : Int)) (kt : (¬ x = y) → J G oR oc on ort T z σ kc ks tgt L st) (kf : (x = y) → J G oR oc on ort T z σ kc ks (pc + 3) L st) : J G oR oc on ort T z σ kc ks pc L (.int y :: .int x :: st) := by
  intro p l e s m args below meth c H locs ls C X hw hS hL
  exact lv_icmp_ne C.1 C.2.1 hd ht (fun q => kt q p l e s m args below meth c H locs ls C X hw hS hL) (fun q => kf q p l e s m args below meth c H locs ls C X hw hS hL)
theorem j_icmp_lt {x y : Int32} {off : Int} (tgt : Nat) (hd : decode oc pc = .ok (.if_icmp .lt off, 3)) (ht : (pc : Int) + off = (tgt : Int)) (kt : (x < y) → J G oR oc on ort T z σ kc ks tgt L st) (kf : (¬ x < y) → J G oR oc on ort T z σ kc ks (pc + 3) L st) : J G oR oc on ort T z σ kc ks pc L (.int y :: .int x :: st) := by
  intro p l e s m args below meth c H locs ls C X hw hS hL
  exact lv_icmp_lt C.1 C.2.1 hd ht (fun q => kt q p l e s m args below meth c H locs ls C X hw hS hL) (fun q => kf q p l e s m args below meth c H locs ls C X hw hS hL)
theorem j_icmp_ge {x y : Int32} {off : Int} (tgt : Nat) (hd : decode oc pc = .ok (.if_icmp .ge off, 3)) (ht : (pc : Int) + off = (tgt : Int)) (kt : (y ≤ x) → J G oR oc on ort T z σ kc ks tgt L st) (kf : (¬ y ≤ x) → J G oR oc on ort T z σ kc ks (pc + 3) L st) : J G oR oc on ort T z σ kc ks pc L (.int y :: .int x :: st) := by
  intro p l e s m args below meth c H locs ls C X hw hS hL
  exact lv_icmp_ge C.1 C.2.1 hd ht (fun q => kt q p l e s m args below meth c H locs ls C X hw hS hL) (fun q => kf q p l e s m args below meth c H locs ls C X hw hS hL)
theorem j_icmp_gt {x y : Int32} {off : Int} (tgt : Nat) (hd : decode oc pc = .ok (.if_icmp .gt off, 3)) (ht : (pc : Int) + off = (tgt : Int)) (kt : (y < x) → J G oR oc on ort T z σ kc ks tgt L st) (kf : (¬ y < x) → J G oR oc on ort T z σ kc ks (pc + 3) L st) : J G oR oc on ort T z σ kc ks pc L (.int y :: .int x :: st) := by
  intro p l e s m args below meth c H locs ls C X hw hS hL
  exact lv_icmp_gt C.1 C.2.1 hd ht (fun q => kt q p l e s m args below meth c H locs ls C X hw hS hL) (fun q => kf q p l e s m args below meth c H locs ls C X hw hS hL)
theorem j_icmp_le {x y : Int32} {off : Int} (tgt : Nat) (hd : decode oc pc = .ok (.if_icmp .le off, 3)) (ht : (pc : Int) + off = (tgt : Int)) (kt : (x ≤ y) → J G oR oc on ort T z σ kc ks tgt L st) (kf : (¬ x ≤ y) → J G oR oc on ort T z σ kc ks (pc + 3) L st) : J G oR oc on ort T z σ kc ks pc L (.int y :: .int x :: st) := by
  intro p l e s m args below meth c H locs ls C X hw hS hL
  exact lv_icmp_le C.1 C.2.1 hd ht (fun q => kt q p l e s m args below meth c H locs ls C X hw hS hL) (fun q => kf q p l e s m args below meth c H locs ls C X hw hS hL)
theorem j_tabOut {dflt lo hi : Int} {offs : Array Int} {len : Nat} {x : Int32} (tgt : Nat) (hd : decode oc pc = .ok (.tableswitch dflt lo hi offs, len)) (h : x.toInt < lo ∨ hi < x.toInt) (ht : (pc : Int) + dflt = (tgt : Int)) (k : J G oR oc on ort T z σ kc ks tgt L st) : J G oR oc on ort T z σ kc ks pc L (.int x :: st) := by
  intro p l e s m args below meth c H locs ls C X hw hS hL
  exact lv_tableOut C.1 C.2.1 hd h ht (k p l e s m args below meth c H locs ls C X hw hS hL)
theorem j_tabIn {dflt lo hi : Int} {offs : Array Int} {len : Nat} {x : Int32} {off : Int} (tgt : Nat) (hd : decode oc pc = .ok (.tableswitch dflt lo hi offs, len)) (h1 : ¬ x.toInt < lo) (h2 : ¬ hi < x.toInt) (ho : offs[(x.toInt - lo).toNat]? = some off) (ht : (pc : Int) + off = (tgt : Int)) (k : J G oR oc on ort T z σ kc ks tgt L st) : J G oR oc on ort T z σ kc ks pc L (.int x :: st) := by
  intro p l e s m args below meth c H locs ls C X hw hS hL
  exact lv_tableIn C.1 C.2.1 hd h1 h2 ho ht (k p l e s m args below meth c H locs ls C X hw hS hL)
theorem j_top {x : Int32} (x1 : Int32) (h : x = x1) (k : J G oR oc on ort T z σ kc ks pc L (.int x1 :: st)) : J G oR oc on ort T z σ kc ks pc L (.int x :: st) := by rw [h]; exact k
theorem j_topl {x : Int64} (x1 : Int64) (h : x = x1) (k : J G oR oc on ort T z σ kc ks pc L (.long x1 :: st)) : J G oR oc on ort T z σ kc ks pc L (.long x :: st) := by rw [h]; exact k
theorem j_iaddN {a b : Nat} (hd : decode oc pc = .ok (.iadd, 1)) (k : J G oR oc on ort T z σ kc ks (pc + 1) L (.int (nI (a + b)) :: st)) : J G oR oc on ort T z σ kc ks pc L (.int (nI b) :: .int (nI a) :: st) := j_iadd hd (by rw [nI_add]; exact k)
theorem j_imulN {a b : Nat} (hd : decode oc pc = .ok (.imul, 1)) (k : J G oR oc on ort T z σ kc ks (pc + 1) L (.int (nI (a * b)) :: st)) : J G oR oc on ort T z σ kc ks pc L (.int (nI b) :: .int (nI a) :: st) := j_imul hd (by rw [pk_mul]; exact k)
theorem j_isubN {a b : Nat} (hd : decode oc pc = .ok (.isub, 1)) (h : b ≤ a) (k : J G oR oc on ort T z σ kc ks (pc + 1) L (.int (nI (a - b)) :: st)) : J G oR oc on ort T z σ kc ks pc L (.int (nI b) :: .int (nI a) :: st) := j_isub hd (by rw [pk_sub h]; exact k)
theorem j_iincN {i : Nat} {a : Nat} (hd : decode oc pc = .ok (.iinc i 1, 3)) (hx : L[i]? = some (some (.int (nI a)))) (hn : i < on) (hc : lok L i = true) (k : J G oR oc on ort T z σ kc ks (pc + 3) (L.set i (some (.int (nI (a + 1))))) st) : J G oR oc on ort T z σ kc ks pc L st := j_iinc (nI (a + 1)) hd hx (by rw [← nI_1]; rfl) hn hc k
theorem j_icmp_geN {a b : Nat} {off : Int} (tgt : Nat) (hd : decode oc pc = .ok (.if_icmp .ge off, 3)) (ht : (pc : Int) + off = (tgt : Int)) (ha : a < 2 ^ 31) (hb : b < 2 ^ 31) (kt : (b ≤ a) → J G oR oc on ort T z σ kc ks tgt L st) (kf : (a < b) → J G oR oc on ort T z σ kc ks (pc + 3) L st) : J G oR oc on ort T z σ kc ks pc L (.int (nI b) :: .int (nI a) :: st) := j_icmp_ge tgt hd ht (fun q => kt ((nI_leI hb ha).mp q)) (fun q => kf (by have := mt (nI_leI hb ha).mpr q; omega))
theorem j_icmp_gtN {a b : Nat} {off : Int} (tgt : Nat) (hd : decode oc pc = .ok (.if_icmp .gt off, 3)) (ht : (pc : Int) + off = (tgt : Int)) (ha : a < 2 ^ 31) (hb : b < 2 ^ 31) (kt : (b < a) → J G oR oc on ort T z σ kc ks tgt L st) (kf : (a ≤ b) → J G oR oc on ort T z σ kc ks (pc + 3) L st) : J G oR oc on ort T z σ kc ks pc L (.int (nI b) :: .int (nI a) :: st) := j_icmp_gt tgt hd ht (fun q => kt ((nI_ltI hb ha).mp q)) (fun q => kf (by have := mt (nI_ltI hb ha).mpr q; omega))
theorem j_icmp_ltN {a b : Nat} {off : Int} (tgt : Nat) (hd : decode oc pc = .ok (.if_icmp .lt off, 3)) (ht : (pc : Int) + off = (tgt : Int)) (ha : a < 2 ^ 31) (hb : b < 2 ^ 31) (kt : (a < b) → J G oR oc on ort T z σ kc ks tgt L st) (kf : (b ≤ a) → J G oR oc on ort T z σ kc ks (pc + 3) L st) : J G oR oc on ort T z σ kc ks pc L (.int (nI b) :: .int (nI a) :: st) := j_icmp_lt tgt hd ht (fun q => kt ((nI_ltI ha hb).mp q)) (fun q => kf (by have := mt (nI_ltI ha hb).mpr q; omega))
theorem j_icmp_leN {a b : Nat} {off : Int} (tgt : Nat) (hd : decode oc pc = .ok (.if_icmp .le off, 3)) (ht : (pc : Int) + off = (tgt : Int)) (ha : a < 2 ^ 31) (hb : b < 2 ^ 31) (kt : (a ≤ b) → J G oR oc on ort T z σ kc ks tgt L st) (kf : (b < a) → J G oR oc on ort T z σ kc ks (pc + 3) L st) : J G oR oc on ort T z σ kc ks pc L (.int (nI b) :: .int (nI a) :: st) := j_icmp_le tgt hd ht (fun q => kt ((nI_leI ha hb).mp q)) (fun q => kf (by have := mt (nI_leI ha hb).mpr q; omega))
theorem j_icmp_eqN {a b : Nat} {off : Int} (tgt : Nat) (hd : decode oc pc = .ok (.if_icmp .eq off, 3)) (ht : (pc : Int) + off = (tgt : Int)) (ha : a < 2 ^ 31) (hb : b < 2 ^ 31) (kt : (a = b) → J G oR oc on ort T z σ kc ks tgt L st) (kf : (¬ a = b) → J G oR oc on ort T z σ kc ks (pc + 3) L st) : J G oR oc on ort T z σ kc ks pc L (.int (nI b) :: .int (nI a) :: st) := j_icmp_eq tgt hd ht (fun q => kt ((nI_eq ha hb).mp q)) (fun q => kf (fun w => q ((nI_eq ha hb).mpr w)))
theorem j_icmp_neN {a b : Nat} {off : Int} (tgt : Nat) (hd : decode oc pc = .ok (.if_icmp .ne off, 3)) (ht : (pc : Int) + off = (tgt : Int)) (ha : a < 2 ^ 31) (hb : b < 2 ^ 31) (kt : (¬ a = b) → J G oR oc on ort T z σ kc ks tgt L st) (kf : (a = b) → J G oR oc on ort T z σ kc ks (pc + 3) L st) : J G oR oc on ort T z σ kc ks pc L (.int (nI b) :: .int (nI a) :: st) := j_icmp_ne tgt hd ht (fun q => kt (fun w => q ((nI_eq ha hb).mpr w))) (fun q => kf ((nI_eq ha hb).mp q))
end JR

/-! THE LAW: the skeleton's head (a starting text of the kit), the law's own rows -/
/-! THE CLAIM OUT OF ONE WALK OF THE LAW'S BODY. Your part is whole_start (and what it stands on); all else here is the same for every law, but numbers. -/
def R_law : String := "DebtFrontsLaw"
def lw_P (b : Addr) (xs : List Int32) (args : Array Value) (s : State) : Prop := args = #[.ref b] ∧ s.IntsAt b xs ∧ xs.length ≤ 3072 ∧ (Jvm.Cond.and given_1 narrow_1).before args s = true
def lw_Q (_ : Array Value) (s : State) (o : Outcome) (t : State) : Prop := o = .returned (some (.int 1)) ∧ Framed s o t [] 600000 7302250
def lw_Z (below : List Frame) (a : Array Value) (s : State) : State → Prop := fun t => ∃ o, t.status = .running ∧ Ended t below o ∧ lw_Q a s o t
/-- the law's own end, with 1 on the stack, nothing written that was there before, its room as the claim has it -/
theorem lw_ret {p : Program} {l : Launch} {e : Env} {s : State} {m : MethodId} {below : List Frame} {meth : Method} {c : Code} {b : Nat} (hx : p.tables.exec = Jvm.exec) (hb : c.code = code) (hr : meth.sig.returnType = ret) (hlocks : meth.locks = false) {pc : Nat} {H : Heap} {ls : Array Slot} (hdg : decode code pc = .ok (.ireturn, 1)) : W p l e room_1 s m #[Value.ref b] below meth c H [] 600000 7302250 (lw_Z below #[Value.ref b] s) (F0 m pc ls [.int 1]) := by
  intro T hT X
  obtain ⟨fs, hret, hrun, hended, hW, hframe⟩ := X.leave (v := some (.int 1)) (hlocks := hlocks) (fun h => by rw [hr] at h; cases h)
  have hmeth' : T.vm.method? m = some meth := X.method'
  refine ⟨T.setFrames fs, ?_, .returned (some (.int 1)), hrun, hended, rfl, ⟨_, rfl⟩, hW, hframe⟩
  jvm_step X.here [X.here.top, hx, hb, hdg, hmeth', hr, ret, narrow_b1]
  (try refine ⟨rfl, ?_⟩); (try refine ⟨rfl, ?_⟩)
  first | (intro acts; rw [hret _ acts rfl rfl rfl]) | rw [hret _ _ rfl rfl rfl]
  exact Steps.refl _
/-- what holds at the law's entry: the machine, the code, the tables' words (any of lw_tbl by 'hts w (by decide +kernel)'), the script of L ints xs at the cell b, what the Statement gives of the start (any of its parts by flat_of_before) -/
def lw_At (p : Program) (s : State) (m : MethodId) (meth : Method) (c : Code) (b L : Nat) (xs : Nat → Int32) : Prop :=
  p.tables.exec = Jvm.exec ∧ c.code = code ∧ meth.sig.returnType = ret ∧ c.maxLocals = 4 ∧ s.vm.findClass R_law = some m.cls ∧ (∀ w ∈ lw_tbl, w.before #[Value.ref b] s = true) ∧ va_X b L xs s s.heap ∧ b < s.heap.size ∧ meth.locks = false ∧ (Jvm.Cond.and given_1 narrow_1).before #[Value.ref b] s = true
def TL (G : GG) (b L : Nat) (xs : Nat → Int32) : TG := (room_1, fun below args s => lw_Z below args s, fun _ args s => args = #[Value.ref b] ∧ va_X b L xs s s.heap ∧ b < s.heap.size ∧ G.1 = s.heap.size ∧ ad G (EXT + 400) = b)
section LR
variable {G : GG} {b L : Nat} {xs : Nat → Int32} {z kc ks pc : Nat} {σ : AH} {Ls : List (Option Value)} {st : List Value}
theorem j_sld {i : Nat} (hd : decode cL_law pc = .ok (.iaload, 1)) (hi : i < L) (hL : L ≤ 3072) (kk : J G RL cL_law 4 ret (TL G b L xs) z σ kc ks (pc + 1) Ls (.int (xs i) :: st)) : J G RL cL_law 4 ret (TL G b L xs) z σ kc ks pc Ls (.int (nI i) :: .ref (EXT + 400) :: st) := by
  intro p l e s m args below meth c H locs ls C X hw hS hLs
  obtain ⟨ha, hX, hb, hG, had⟩ := id X
  have k2 := kk p l e s m args below meth c H locs ls C X hw hS hLs
  have hbA : ¬ AG G b := by show ¬ G.1 ≤ b; omega
  show W p l e _ s m args below meth c H locs kc ks _ (F0 m pc ls (.int (nI i) :: .ref (ad G (EXT + 400)) :: st.map (cV G)))
  rw [had]
  refine va_sld C.1 C.2.1 hX hb hbA hS (vp_in_nI hi (by omega)) hd ?_
  rw [nI_clamp (by omega)]
  exact k2
theorem j_slenL (hd : decode cL_law pc = .ok (.arraylength, 1)) (kk : J G RL cL_law 4 ret (TL G b L xs) z σ kc ks (pc + 1) Ls (.int (nI L) :: st)) : J G RL cL_law 4 ret (TL G b L xs) z σ kc ks pc Ls (.ref (EXT + 400) :: st) := by
  intro p l e s m args below meth c H locs ls C X hw hS hLs
  obtain ⟨ha, hX, hb, hG, had⟩ := id X
  have k2 := kk p l e s m args below meth c H locs ls C X hw hS hLs
  have hbA : ¬ AG G b := by show ¬ G.1 ≤ b; omega
  show W p l e _ s m args below meth c H locs kc ks _ (F0 m pc ls (.ref (ad G (EXT + 400)) :: st.map (cV G)))
  rw [had]
  exact va_slen C.1 C.2.1 hX hb hbA hS hd k2
theorem j_lret (hd : decode cL_law pc = .ok (.ireturn, 1)) (hkc : kc ≤ 600000) (hks : ks ≤ 7302250) : J G RL cL_law 4 ret (TL G b L xs) z σ kc ks pc Ls [.int (nI 1)] := by
  intro p l e s m args below meth c H locs ls C X hw hS hLs
  obtain ⟨ha, hX, hb, hG, had⟩ := X
  subst ha
  refine W.widen (k := 600000) (n := 7302250) hkc hks ?_
  refine va_forget (fun q hq => by rw [← hG]; exact hS.2.2 q hq) ?_
  exact lw_ret C.1 C.2.1 C.2.2.1 C.2.2.2.2.2.2.1 hd
end LR
section IVS
variable {G : GG} {z : Nat} {σ : AH}
theorem IV_0 (H : IV σ) : ∃ fs, σ 0 = some (.inr (.inr (5, fs))) := by
  obtain ⟨_, _, _, _, _, _, _, _, _, _, _, _, _, _, _, _, _, _, _, _, _, _, _, _, _, _, _, _, _, _, _, H⟩ := H
  exact ⟨_, H.1.1⟩
theorem IV_row (H : IV σ) (p1 p2 p3 : Int32) : Bst G z yX5_row cX5_row 4 3 yX6_row cX6_row 5 3 [.int p1, .int p2, .int p3] σ := by
  obtain ⟨_, _, _, _, _, _, _, _, _, _, _, _, _, _, _, _, _, _, _, _, _, _, _, _, _, _, _, _, _, _, _, H⟩ := H
  exact s_row H p1 p2 p3
theorem IV_set (H : IV σ) (p1 p2 p3 : Int32) : Bst G z yX5_set cX5_set 5 3 yX6_set cX6_set 4 3 [.int p1, .int p2, .int p3] σ := by
  obtain ⟨_, _, _, _, _, _, _, _, _, _, _, _, _, _, _, _, _, _, _, _, _, _, _, _, _, _, _, _, _, _, _, H⟩ := H
  exact s_set H p1 p2 p3
theorem IV_copy (H : IV σ) (p1 p2 p3 p4 p5 : Int32) : Bst G z yX5_copy cX5_copy 8 3 yX6_copy cX6_copy 9 3 [.int p1, .int p2, .int p3, .int p4, .int p5] σ := by
  obtain ⟨_, _, _, _, _, _, _, _, _, _, _, _, _, _, _, _, _, _, _, _, _, _, _, _, _, _, _, _, _, _, _, H⟩ := H
  exact s_copy H p1 p2 p3 p4 p5
theorem IV_drop (H : IV σ) (p1 : Int32) : Bst G z yX5_drop cX5_drop 4 3 yX6_drop cX6_drop 3 3 [.int p1] σ := by
  obtain ⟨_, _, _, _, _, _, _, _, _, _, _, _, _, _, _, _, _, _, _, _, _, _, _, _, _, _, _, _, _, _, _, H⟩ := H
  exact s_drop H p1
theorem IV_feed (H : IV σ) (w : Int64) (n : Int32) : Bst G z yX5_feed cX5_feed 5 1 yX6_feed cX6_feed 5 2 [.long w, .int n] σ := by
  obtain ⟨_, _, _, _, _, _, _, _, _, _, _, _, _, _, _, _, _, _, _, _, _, _, _, _, _, _, _, _, _, _, _, H⟩ := H
  exact s_feed H w n
theorem IV_town (H : IV σ)  : Bst G z yX5_town cX5_town 2 10 yX6_town cX6_town 3 10 [] σ := by
  obtain ⟨_, _, _, _, _, _, _, _, _, _, _, _, _, _, _, _, _, _, _, _, _, _, _, _, _, _, _, _, _, _, _, H⟩ := H
  exact s_town H 
theorem IV_fault (H : IV σ)  : Bst G z yX5_fault cX5_fault 1 1 yX6_fault cX6_fault 1 1 [] σ := by
  obtain ⟨_, _, _, _, _, _, _, _, _, _, _, _, _, _, _, _, _, _, _, _, _, _, _, _, _, _, _, _, _, _, _, H⟩ := H
  exact s_fault H 
theorem IV_loan (H : IV σ) (p1 p2 p3 : Int32) : Bst G z yX5_loan cX5_loan 5 4 yX6_loan cX6_loan 4 4 [.int p1, .int p2, .int p3] σ := by
  obtain ⟨_, _, _, _, _, _, _, _, _, _, _, _, _, _, _, _, _, _, _, _, _, _, _, _, _, _, _, _, _, _, _, H⟩ := H
  exact s_loan H p1 p2 p3
theorem IV_pay (H : IV σ) (p1 p2 p3 : Int32) : Bst G z yX5_pay cX5_pay 4 4 yX6_pay cX6_pay 4 4 [.int p1, .int p2, .int p3] σ := by
  obtain ⟨_, _, _, _, _, _, _, _, _, _, _, _, _, _, _, _, _, _, _, _, _, _, _, _, _, _, _, _, _, _, _, H⟩ := H
  exact s_pay H p1 p2 p3
theorem IV_paint (H : IV σ) (p1 p2 : Int32) : Bst G z yX5_paint cX5_paint 4 5 yX6_paint cX6_paint 4 5 [.int p1, .int p2] σ := by
  obtain ⟨_, _, _, _, _, _, _, _, _, _, _, _, _, _, _, _, _, _, _, _, _, _, _, _, _, _, _, _, _, _, _, H⟩ := H
  exact s_paint H p1 p2
theorem IV_hedge (H : IV σ) (p1 p2 : Int32) : Bst G z yX5_hedge cX5_hedge 4 4 yX6_hedge cX6_hedge 4 4 [.int p1, .int p2] σ := by
  obtain ⟨_, _, _, _, _, _, _, _, _, _, _, _, _, _, _, _, _, _, _, _, _, _, _, _, _, _, _, _, _, _, _, H⟩ := H
  exact s_hedge H p1 p2
theorem IV_quarter (H : IV σ) (p1 : Int32) : Bst G z yX5_quarter cX5_quarter 2 6 yX6_quarter cX6_quarter 9 6 [.int p1] σ := by
  obtain ⟨_, _, _, _, _, _, _, _, _, _, _, _, _, _, _, _, _, _, _, _, _, _, _, _, _, _, _, _, _, _, _, H⟩ := H
  exact s_quarter H p1
theorem IV_undo (H : IV σ)  : Bst G z yX5_undo cX5_undo 1 4 yX6_undo cX6_undo 2 4 [] σ := by
  obtain ⟨_, _, _, _, _, _, _, _, _, _, _, _, _, _, _, _, _, _, _, _, _, _, _, _, _, _, _, _, _, _, _, H⟩ := H
  exact s_undo H 
theorem IV_person (H : IV σ) (p1 p2 : Int32) : Bst G z yX5_person cX5_person 3 5 yX6_person_ cX6_person_ 4 5 [.int p1, .int p2] σ := by
  obtain ⟨_, _, _, _, _, _, _, _, _, _, _, _, _, _, _, _, _, _, _, _, _, _, _, _, _, _, _, _, _, _, _, H⟩ := H
  exact s_person H p1 p2
theorem IV_fits (H : IV σ) (p1 p2 p3 : Int32) : Bst G z yX5_fits cX5_fits 5 3 yX6_fits cX6_fits 13 3 [.int p1, .int p2, .int p3] σ := by
  obtain ⟨_, _, _, _, _, _, _, _, _, _, _, _, _, _, _, _, _, _, _, _, _, _, _, _, _, _, _, _, _, _, _, H⟩ := H
  exact s_fits H p1 p2 p3
theorem IV_hiding (H : IV σ) (p1 : Int32) : Bst G z yX5_hiding cX5_hiding 3 5 yX6_hiding cX6_hiding 8 5 [.int p1] σ := by
  obtain ⟨_, _, _, _, _, _, _, _, _, _, _, _, _, _, _, _, _, _, _, _, _, _, _, _, _, _, _, _, _, _, _, H⟩ := H
  exact s_hiding H p1
theorem IV_clear (H : IV σ) (p1 : Int32) : Bst G z yX5_clear cX5_clear 5 5 yX6_clear cX6_clear 4 5 [.int p1] σ := by
  obtain ⟨_, _, _, _, _, _, _, _, _, _, _, _, _, _, _, _, _, _, _, _, _, _, _, _, _, _, _, _, _, _, _, H⟩ := H
  exact s_clear H p1
theorem IV_coin (H : IV σ) (p1 : Int32) : Bst G z yX5_coin cX5_coin 4 5 yX6_coin cX6_coin 4 5 [.int p1] σ := by
  obtain ⟨_, _, _, _, _, _, _, _, _, _, _, _, _, _, _, _, _, _, _, _, _, _, _, _, _, _, _, _, _, _, _, H⟩ := H
  exact s_coin H p1
theorem IV_run (H : IV σ) (p1 p2 : Int32) : Bst G z yX5_run cX5_run 7 6 yX6_run cX6_run 10 6 [.int p1, .int p2] σ := by
  obtain ⟨_, _, _, _, _, _, _, _, _, _, _, _, _, _, _, _, _, _, _, _, _, _, _, _, _, _, _, _, _, _, _, H⟩ := H
  exact s_run H p1 p2
theorem IV_cheats (H : IV σ)  : Bst G z yX5_cheats cX5_cheats 3 5 yX6_cheats cX6_cheats 3 5 [] σ := by
  obtain ⟨_, _, _, _, _, _, _, _, _, _, _, _, _, _, _, _, _, _, _, _, _, _, _, _, _, _, _, _, _, _, _, H⟩ := H
  exact s_cheats H 
theorem IV_walk (H : IV σ) (p1 p2 : Int32) : Bst G z yX5_walk cX5_walk 6 5 yX6_walk cX6_walk 6 5 [.int p1, .int p2] σ := by
  obtain ⟨_, _, _, _, _, _, _, _, _, _, _, _, _, _, _, _, _, _, _, _, _, _, _, _, _, _, _, _, _, _, _, H⟩ := H
  exact s_walk H p1 p2
theorem IV_image (H : IV σ) (p1 : Int32) : Bst G z yX5_image cX5_image 2 2 yX6_image cX6_image 3 2 [.int p1] σ := by
  obtain ⟨_, _, _, _, _, _, _, _, _, _, _, _, _, _, _, _, _, _, _, _, _, _, _, _, _, _, _, _, _, _, _, H⟩ := H
  exact s_image H p1
theorem IV_restore (H : IV σ) (p1 : Int32) : Bst G z yX5_restore cX5_restore 2 2 yX6_restore cX6_restore 3 2 [.int p1] σ := by
  obtain ⟨_, _, _, _, _, _, _, _, _, _, _, _, _, _, _, _, _, _, _, _, _, _, _, _, _, _, _, _, _, _, _, H⟩ := H
  exact s_restore H p1
theorem IV_kind (H : IV σ) (p1 : Int32) : Bst G z yX5_kind cX5_kind 2 5 yX6_kind cX6_kind 2 5 [.int p1] σ := by
  obtain ⟨_, _, _, _, _, _, _, _, _, _, _, _, _, _, _, _, _, _, _, _, _, _, _, _, _, _, _, _, _, _, _, H⟩ := H
  exact s_kind H p1
theorem IV_as (H : IV σ) (p1 p2 : Int32) : Bst G z yX5_as cX5_as 3 5 yX6_as cX6_as 5 5 [.int p1, .int p2] σ := by
  obtain ⟨_, _, _, _, _, _, _, _, _, _, _, _, _, _, _, _, _, _, _, _, _, _, _, _, _, _, _, _, _, _, _, H⟩ := H
  exact s_as H p1 p2
theorem IV_ask (H : IV σ) (p1 p2 : Int32) : Bst G z yX5_ask cX5_ask 3 9 yX6_ask cX6_ask 4 9 [.int p1, .int p2] σ := by
  obtain ⟨_, _, _, _, _, _, _, _, _, _, _, _, _, _, _, _, _, _, _, _, _, _, _, _, _, _, _, _, _, _, _, H⟩ := H
  exact s_ask H p1 p2
theorem IV_trace (H : IV σ) (p1 : Int32) : Bst G z yX5_trace cX5_trace 2 1 yX6_trace cX6_trace 2 2 [.int p1] σ := by
  obtain ⟨_, _, _, _, _, _, _, _, _, _, _, _, _, _, _, _, _, _, _, _, _, _, _, _, _, _, _, _, _, _, _, H⟩ := H
  exact s_trace H p1
theorem IV_count (H : IV σ) (p1 : Int32) : Bst G z yX5_count cX5_count 2 3 yX6_count cX6_count 6 3 [.int p1] σ := by
  obtain ⟨_, _, _, _, _, _, _, _, _, _, _, _, _, _, _, _, _, _, _, _, _, _, _, _, _, _, _, _, _, _, _, H⟩ := H
  exact s_count H p1
theorem IV_status (H : IV σ)  : Bst G z yX5_status cX5_status 1 1 yX6_status cX6_status 1 1 [] σ := by
  obtain ⟨_, _, _, _, _, _, _, _, _, _, _, _, _, _, _, _, _, _, _, _, _, _, _, _, _, _, _, _, _, _, _, H⟩ := H
  exact s_status H 
end IVS

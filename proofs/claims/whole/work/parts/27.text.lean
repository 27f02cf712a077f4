/-! TEXT CONSTANTS: String.length, charAt over the five words -/
def lnS (i : Nat) : Nat := lenS.getD i 0
def btS (i k : Nat) : Int32 := (bytS.getD i []).getD k 0
def chS (i k : Nat) : Int32 := ((btS i k &&& nI 255).toUInt32 % 65536).toInt32
theorem chS_ok : ∀ i, i < 5 → ∀ k, k < lnS i → chS i k = btS i k ∧ narrow .char (.int (chS i k)) = .int (chS i k) := by decide
theorem lnS_sh : ∀ i, i < 5 → nI (lnS i) >>> ((0 : Int32) &&& 31) = nI (lnS i) := by decide
theorem lnS_le : ∀ i, i < 5 → 1 ≤ lnS i ∧ lnS i ≤ 6 := by decide
section JS
variable {G : GG} {oR : String} {oc : ByteArray} {on : Nat} {ort : Option FieldType} {T : TG} {z kc ks pc : Nat} {σ : AH} {L : List (Option Value)} {st : List Value}
theorem j_gets2 {ix : Nat} (C n dd : String) (v : Value) (hd : decode oc pc = .ok (.getstatic ix, 3)) (hl : Cond.fieldLink oR ix C n dd ∈ gw) (hz : ∀ (U : State) (H : Heap), Gx G U H → va_Z C n dd (cV G v) (AG G) U H) (kk : J G oR oc on ort T z σ kc ks (pc + 3) L (v :: st)) : J G oR oc on ort T z σ kc ks pc L st := by
  intro p l e s m args below meth c H locs ls C0 X hw hS hL
  exact va_gets C0.1 C0.2.1 (hz _ _ C0.2.2.2.2.2.2.2.2.1) hS C0.2.2.2.2.1 (C0.2.2.2.2.2.1 _ hl) (fun _ h => h) hd (kk p l e s m args below meth c H locs ls C0 X hw hS hL)
theorem j_getsQ {ix : Nat} (C n dd : String) (k : Nat) (hd : decode oc pc = .ok (.getstatic ix, 3)) (hl : Cond.fieldLink oR ix C n dd ∈ gw) (hz : ∀ (U : State) (H : Heap), Gx G U H → va_Z C n dd .null (AG G) U H ∨ va_Z C n dd (.ref (ad G k)) (AG G) U H) (k0 : J G oR oc on ort T z σ kc ks (pc + 3) L (.null :: st)) (k1 : J G oR oc on ort T z σ kc ks (pc + 3) L (.ref k :: st)) : J G oR oc on ort T z σ kc ks pc L st := by
  intro p l e s m args below meth c H locs ls C0 X hw hS hL
  rcases hz _ _ C0.2.2.2.2.2.2.2.2.1 with h | h
  · exact va_gets C0.1 C0.2.1 h hS C0.2.2.2.2.1 (C0.2.2.2.2.2.1 _ hl) (fun _ h => h) hd (k0 p l e s m args below meth c H locs ls C0 X hw hS hL)
  · exact va_gets C0.1 C0.2.1 h hS C0.2.2.2.2.1 (C0.2.2.2.2.2.1 _ hl) (fun _ h => h) hd (k1 p l e s m args below meth c H locs ls C0 X hw hS hL)
theorem j_sgetV {ix i : Nat} (hd : decode oc pc = .ok (.getfield ix, 3)) (hl : Cond.fieldLink oR ix "java/lang/String" "value" "[B" ∈ gw) (hi : i < 5) (kk : J G oR oc on ort T z σ kc ks (pc + 3) L (.ref (EXT + 100 + i) :: st)) : J G oR oc on ort T z σ kc ks pc L (.ref (EXT + i) :: st) := by
  intro p l e s m args below meth c H locs ls C0 X hw hS hL
  exact vk_getf C0.1 C0.2.1 (C0.2.2.2.2.2.2.2.2.1.2.2.2.2.1.1 i hi).2.2.1 hS C0.2.2.2.2.1 (C0.2.2.2.2.2.1 _ hl) (fun _ h => h) hd (kk p l e s m args below meth c H locs ls C0 X hw hS hL)
theorem j_sgetC {ix i : Nat} (hd : decode oc pc = .ok (.getfield ix, 3)) (hl : Cond.fieldLink oR ix "java/lang/String" "coder" "B" ∈ gw) (hi : i < 5) (kk : J G oR oc on ort T z σ kc ks (pc + 3) L (.int 0 :: st)) : J G oR oc on ort T z σ kc ks pc L (.ref (EXT + i) :: st) := by
  intro p l e s m args below meth c H locs ls C0 X hw hS hL
  exact vk_getf C0.1 C0.2.1 (C0.2.2.2.2.2.2.2.2.1.2.2.2.2.1.1 i hi).2.1 hS C0.2.2.2.2.1 (C0.2.2.2.2.2.1 _ hl) (fun _ h => h) hd (kk p l e s m args below meth c H locs ls C0 X hw hS hL)
theorem j_slen {i : Nat} (hd : decode oc pc = .ok (.arraylength, 1)) (hi : i < 5) (kk : J G oR oc on ort T z σ kc ks (pc + 1) L (.int (nI (lnS i)) :: st)) : J G oR oc on ort T z σ kc ks pc L (.ref (EXT + 100 + i) :: st) := by
  intro p l e s m args below meth c H locs ls C0 X hw hS hL
  exact va_tlen C0.1 C0.2.1 (C0.2.2.2.2.2.2.2.2.1.2.2.2.2.1.1 i hi).2.2.2 hS rfl hd (kk p l e s m args below meth c H locs ls C0 X hw hS hL)
theorem j_sbald {i k : Nat} (hd : decode oc pc = .ok (.baload, 1)) (hi : i < 5) (hk : k < lnS i) (kk : J G oR oc on ort T z σ kc ks (pc + 1) L (.int (btS i k) :: st)) : J G oR oc on ort T z σ kc ks pc L (.int (nI k) :: .ref (EXT + 100 + i) :: st) := by
  intro p l e s m args below meth c H locs ls C0 X hw hS hL
  have h6 := (lnS_le i hi).2
  refine va_tb (v := .int (btS i k)) C0.1 C0.2.1 (C0.2.2.2.2.2.2.2.2.1.2.2.2.2.1.1 i hi).2.2.2 hS (vp_in_nI (show k < lenS.getD i 0 from hk) (show lnS i < 2 ^ 31 by omega)) ?_ hd (kk p l e s m args below meth c H locs ls C0 X hw hS hL)
  rw [nI_clamp (by omega)]
  rfl
theorem j_ldcS {ix i : Nat} (hR : oR = RX2) (hi : i < 5) (hx : ix = idS.getD i 0) (hd : decode oc pc = .ok (.ldc ix, 2)) (kk : J G oR oc on ort T z σ kc ks (pc + 2) L (.ref (EXT + i) :: st)) : J G oR oc on ort T z σ kc ks pc L st := by
  intro p l e s m args below meth c H locs ls C0 X hw hS hL
  subst hx
  have hown : s.vm.findClass RX2 = some m.cls := by rw [← hR]; exact C0.2.2.2.2.1
  exact va_ldcS C0.1 C0.2.1 hown (C0.2.2.2.2.2.2.2.2.1.2.2.2.2.2.1 i hi) hd (kk p l e s m args below meth c H locs ls C0 X hw hS hL)
theorem j_callVS {ix i : Nat} {y : MethodName} {cc : ByteArray} {nL n mc ms : Nat} {ret : Option FieldType} {As rest : List Value} {r : Option Value} {z2 : Nat} {σ2 : AH} (hi : i < 5) (hy : y.cls = "java/lang/String") (hC : Ct G y cc nL ret n mc ms z σ (.ref (EXT + i) :: As) r z2 σ2) (hd : decode oc pc = .ok (.invokevirtual ix, 3)) (hst : st = As.reverse ++ .ref (EXT + i) :: rest) (hwd : WV oR ix y cc nL ret As.length)
    (hrm : n + 1 ≤ T.1.frames ∧ 8 + (nL + 11) + 40 * n ≤ T.1.locals) (hf : kc + mc ≤ T.1.cells ∧ ks + ms ≤ T.1.slots) (hcat : (rest.map fun v => v.category).sum ≤ 8)
    (kk : J G oR oc on ort T z2 σ2 (kc + mc) (ks + ms) (pc + 3) L (r.toList ++ rest)) : J G oR oc on ort T z σ kc ks pc L st := by
  intro p l e s m args below meth c H locs ls C X hw hS hL
  subst hst
  obtain ⟨hwd, hd1, hd2, hd3⟩ := hwd
  have hts := C.2.2.2.2.2.1
  refine W_call (r := r) (z2 := z2) (σ2 := σ2) (rest := rest.map (cV G)) (va_runV (As := As.map (cV G)) (b := ad G (EXT + i)) ⟨C.1, C.2.1, C.2.2.2.1, C.2.2.2.2.1, hts⟩ (hC l) (cwV As.length hts (fun w h => ?_) rfl rfl rfl ⟨rfl, hd1, hd2, hd3⟩ hrm) ⟨pc_blind, ?_, ?_⟩ rfl (by simp) hL.1 (by simp [cV]) (lv_room (by rw [cat_map]; exact hcat)) hd hf) hS (fun H1 locs1 h1 h2 => ?_)
  · unfold wsV at h
    rcases List.mem_append.mp h with h | h
    · have h2 : w ∈ gw := hwd w (by simp at h ⊢; rcases h with h | h | h | h <;> simp [h])
      exact ⟨h2, gw_good h2⟩
    · exact gw_code (hwd _ (by simp)) w h
  · rw [hy]
    obtain ⟨cell, g1, g2, g3⟩ := vk_recv (i := i) C.2.2.2.2.2.2.2.2.1.2.2.2.2.1 hi hS
    exact ⟨cell, g1, g2, g3⟩
  · exact fun U hU hW => pc_here (av := (Value.ref (EXT + i) :: As).map (cV G)) C hw hS U hU hW
  · have e1 : (r.map (cV G)).toList ++ rest.map (cV G) = (r.toList ++ rest).map (cV G) := by cases r <;> simp
    rw [e1]
    exact kk p l e s m args below meth c H1 locs1 ls C X h1 h2 hL
end JS
theorem dJ0_length_8abf5_0 : decode cJ0_length_8abf5 0 = .ok (.aload_n 0, 1) := by decide +kernel
theorem dJ0_length_8abf5_1 : decode cJ0_length_8abf5 1 = .ok (.getfield 9, 3) := by decide +kernel
theorem dJ0_length_8abf5_4 : decode cJ0_length_8abf5 4 = .ok (.arraylength, 1) := by decide +kernel
theorem dJ0_length_8abf5_5 : decode cJ0_length_8abf5 5 = .ok (.aload_n 0, 1) := by decide +kernel
theorem dJ0_length_8abf5_6 : decode cJ0_length_8abf5 6 = .ok (.invokevirtual 335, 3) := by decide +kernel
theorem dJ0_length_8abf5_9 : decode cJ0_length_8abf5 9 = .ok (.ishr, 1) := by decide +kernel
theorem dJ0_length_8abf5_10 : decode cJ0_length_8abf5 10 = .ok (.ireturn, 1) := by decide +kernel
theorem dJ0_charAt_5068e_0 : decode cJ0_charAt_5068e 0 = .ok (.aload_n 0, 1) := by decide +kernel
theorem dJ0_charAt_5068e_1 : decode cJ0_charAt_5068e 1 = .ok (.invokevirtual 492, 3) := by decide +kernel
theorem dJ0_charAt_5068e_4 : decode cJ0_charAt_5068e 4 = .ok (.ifCond .eq 12, 3) := by decide +kernel
theorem dJ0_charAt_5068e_7 : decode cJ0_charAt_5068e 7 = .ok (.aload_n 0, 1) := by decide +kernel
theorem dJ0_charAt_5068e_8 : decode cJ0_charAt_5068e 8 = .ok (.getfield 9, 3) := by decide +kernel
theorem dJ0_charAt_5068e_11 : decode cJ0_charAt_5068e 11 = .ok (.iload_n 1, 1) := by decide +kernel
theorem dJ0_charAt_5068e_12 : decode cJ0_charAt_5068e 12 = .ok (.invokestatic 495, 3) := by decide +kernel
theorem dJ0_charAt_5068e_15 : decode cJ0_charAt_5068e 15 = .ok (.ireturn, 1) := by decide +kernel
theorem dJ0_charAt_5068e_16 : decode cJ0_charAt_5068e 16 = .ok (.aload_n 0, 1) := by decide +kernel
theorem dJ0_charAt_5068e_17 : decode cJ0_charAt_5068e 17 = .ok (.getfield 9, 3) := by decide +kernel
theorem dJ0_charAt_5068e_20 : decode cJ0_charAt_5068e 20 = .ok (.iload_n 1, 1) := by decide +kernel
theorem dJ0_charAt_5068e_21 : decode cJ0_charAt_5068e 21 = .ok (.invokestatic 498, 3) := by decide +kernel
theorem dJ0_charAt_5068e_24 : decode cJ0_charAt_5068e 24 = .ok (.ireturn, 1) := by decide +kernel
theorem dJ0_coder_7d493_0 : decode cJ0_coder_7d493 0 = .ok (.getstatic 38, 3) := by decide +kernel
theorem dJ0_coder_7d493_3 : decode cJ0_coder_7d493 3 = .ok (.ifCond .eq 10, 3) := by decide +kernel
theorem dJ0_coder_7d493_6 : decode cJ0_coder_7d493 6 = .ok (.aload_n 0, 1) := by decide +kernel
theorem dJ0_coder_7d493_7 : decode cJ0_coder_7d493 7 = .ok (.getfield 15, 3) := by decide +kernel
theorem dJ0_coder_7d493_10 : decode cJ0_coder_7d493 10 = .ok (.goto 4, 3) := by decide +kernel
theorem dJ0_coder_7d493_13 : decode cJ0_coder_7d493 13 = .ok (.iconst 1, 1) := by decide +kernel
theorem dJ0_coder_7d493_14 : decode cJ0_coder_7d493 14 = .ok (.ireturn, 1) := by decide +kernel
theorem dJ0_isLatin1_aae02_0 : decode cJ0_isLatin1_aae02 0 = .ok (.getstatic 38, 3) := by decide +kernel
theorem dJ0_isLatin1_aae02_3 : decode cJ0_isLatin1_aae02 3 = .ok (.ifCond .eq 14, 3) := by decide +kernel
theorem dJ0_isLatin1_aae02_6 : decode cJ0_isLatin1_aae02 6 = .ok (.aload_n 0, 1) := by decide +kernel
theorem dJ0_isLatin1_aae02_7 : decode cJ0_isLatin1_aae02 7 = .ok (.getfield 15, 3) := by decide +kernel
theorem dJ0_isLatin1_aae02_10 : decode cJ0_isLatin1_aae02 10 = .ok (.ifCond .ne 7, 3) := by decide +kernel
theorem dJ0_isLatin1_aae02_13 : decode cJ0_isLatin1_aae02 13 = .ok (.iconst 1, 1) := by decide +kernel
theorem dJ0_isLatin1_aae02_14 : decode cJ0_isLatin1_aae02 14 = .ok (.goto 4, 3) := by decide +kernel
theorem dJ0_isLatin1_aae02_17 : decode cJ0_isLatin1_aae02 17 = .ok (.iconst 0, 1) := by decide +kernel
theorem dJ0_isLatin1_aae02_18 : decode cJ0_isLatin1_aae02 18 = .ok (.ireturn, 1) := by decide +kernel
theorem dJ1_charAt_3b067_0 : decode cJ1_charAt_3b067 0 = .ok (.iload_n 1, 1) := by decide +kernel
theorem dJ1_charAt_3b067_1 : decode cJ1_charAt_3b067 1 = .ok (.aload_n 0, 1) := by decide +kernel
theorem dJ1_charAt_3b067_2 : decode cJ1_charAt_3b067 2 = .ok (.arraylength, 1) := by decide +kernel
theorem dJ1_charAt_3b067_3 : decode cJ1_charAt_3b067 3 = .ok (.invokestatic 9, 3) := by decide +kernel
theorem dJ1_charAt_3b067_6 : decode cJ1_charAt_3b067 6 = .ok (.aload_n 0, 1) := by decide +kernel
theorem dJ1_charAt_3b067_7 : decode cJ1_charAt_3b067 7 = .ok (.iload_n 1, 1) := by decide +kernel
theorem dJ1_charAt_3b067_8 : decode cJ1_charAt_3b067 8 = .ok (.baload, 1) := by decide +kernel
theorem dJ1_charAt_3b067_9 : decode cJ1_charAt_3b067 9 = .ok (.sipush 255, 3) := by decide +kernel
theorem dJ1_charAt_3b067_12 : decode cJ1_charAt_3b067 12 = .ok (.iand, 1) := by decide +kernel
theorem dJ1_charAt_3b067_13 : decode cJ1_charAt_3b067 13 = .ok (.i2c, 1) := by decide +kernel
theorem dJ1_charAt_3b067_14 : decode cJ1_charAt_3b067 14 = .ok (.ireturn, 1) := by decide +kernel
theorem dJ0_checkIndex_df160_0 : decode cJ0_checkIndex_df160 0 = .ok (.iload_n 0, 1) := by decide +kernel
theorem dJ0_checkIndex_df160_1 : decode cJ0_checkIndex_df160 1 = .ok (.iload_n 1, 1) := by decide +kernel
theorem dJ0_checkIndex_df160_2 : decode cJ0_checkIndex_df160 2 = .ok (.getstatic 1053, 3) := by decide +kernel
theorem dJ0_checkIndex_df160_5 : decode cJ0_checkIndex_df160 5 = .ok (.invokestatic 1059, 3) := by decide +kernel
theorem dJ0_checkIndex_df160_8 : decode cJ0_checkIndex_df160 8 = .ok (.pop, 1) := by decide +kernel
theorem dJ0_checkIndex_df160_9 : decode cJ0_checkIndex_df160 9 = .ok (.return_, 1) := by decide +kernel
theorem dJ3_checkIndex_8e157_0 : decode cJ3_checkIndex_8e157 0 = .ok (.iload_n 0, 1) := by decide +kernel
theorem dJ3_checkIndex_8e157_1 : decode cJ3_checkIndex_8e157 1 = .ok (.ifCond .lt 8, 3) := by decide +kernel
theorem dJ3_checkIndex_8e157_4 : decode cJ3_checkIndex_8e157 4 = .ok (.iload_n 0, 1) := by decide +kernel
theorem dJ3_checkIndex_8e157_5 : decode cJ3_checkIndex_8e157 5 = .ok (.iload_n 1, 1) := by decide +kernel
theorem dJ3_checkIndex_8e157_6 : decode cJ3_checkIndex_8e157 6 = .ok (.if_icmp .lt 10, 3) := by decide +kernel
theorem dJ3_checkIndex_8e157_9 : decode cJ3_checkIndex_8e157 9 = .ok (.aload_n 2, 1) := by decide +kernel
theorem dJ3_checkIndex_8e157_10 : decode cJ3_checkIndex_8e157 10 = .ok (.iload_n 0, 1) := by decide +kernel
theorem dJ3_checkIndex_8e157_11 : decode cJ3_checkIndex_8e157 11 = .ok (.iload_n 1, 1) := by decide +kernel
theorem dJ3_checkIndex_8e157_12 : decode cJ3_checkIndex_8e157 12 = .ok (.invokestatic 95, 3) := by decide +kernel
theorem dJ3_checkIndex_8e157_15 : decode cJ3_checkIndex_8e157 15 = .ok (.athrow, 1) := by decide +kernel
theorem dJ3_checkIndex_8e157_16 : decode cJ3_checkIndex_8e157 16 = .ok (.iload_n 0, 1) := by decide +kernel
theorem dJ3_checkIndex_8e157_17 : decode cJ3_checkIndex_8e157 17 = .ok (.ireturn, 1) := by decide +kernel
section S1
variable {G : GG} {z : Nat} {σ : AH} {i : Nat} (hi : i < 5)
theorem c_scoder (hi : i < 5) : Ct G yJ0_coder_7d493 cJ0_coder_7d493 1 (some .byte) 1 0 0 z σ [.ref (EXT + i)] (some (.int 0)) z σ := by
  refine Ct.ofJ RJ0 rfl [some (.ref (EXT + i))] rfl (by decide) Nat.le.refl ?_
  refine j_gets2 "java/lang/String" "COMPACT_STRINGS" "Z" (.int 1) dJ0_coder_7d493_0 fl_J0_38 (fun _ _ h => h.2.2.2.1) ?_
  refine j_if_eq 13 dJ0_coder_7d493_3 (by decide) (fun b3 => by exact absurd b3 (by decide)) (fun b3 => ?_)
  refine j_aload_n dJ0_coder_7d493_6 rfl rfl ?_
  refine j_sgetC dJ0_coder_7d493_7 fl_J0_15 hi ?_
  refine j_goto 14 dJ0_coder_7d493_10 (by decide) ?_
  exact j_zret .byte rfl rfl dJ0_coder_7d493_14 rfl rfl (Nat.le_of_ble_eq_true rfl) (Nat.le_of_ble_eq_true rfl)
theorem c_slatin (hi : i < 5) : Ct G yJ0_isLatin1_aae02 cJ0_isLatin1_aae02 1 (some .boolean) 1 0 0 z σ [.ref (EXT + i)] (some (.int (nI 1))) z σ := by
  refine Ct.ofJ RJ0 rfl [some (.ref (EXT + i))] rfl (by decide) Nat.le.refl ?_
  refine j_gets2 "java/lang/String" "COMPACT_STRINGS" "Z" (.int 1) dJ0_isLatin1_aae02_0 fl_J0_38 (fun _ _ h => h.2.2.2.1) ?_
  refine j_if_eq 17 dJ0_isLatin1_aae02_3 (by decide) (fun b3 => by exact absurd b3 (by decide)) (fun b3 => ?_)
  refine j_aload_n dJ0_isLatin1_aae02_6 rfl rfl ?_
  refine j_sgetC dJ0_isLatin1_aae02_7 fl_J0_15 hi ?_
  refine j_if_ne 17 dJ0_isLatin1_aae02_10 (by decide) (fun b10 => by exact absurd rfl b10) (fun b10 => ?_)
  refine j_iconst (nI 1) dJ0_isLatin1_aae02_13 rfl ?_
  refine j_goto 18 dJ0_isLatin1_aae02_14 (by decide) ?_
  exact j_zret .boolean rfl rfl dJ0_isLatin1_aae02_18 rfl rfl (Nat.le_of_ble_eq_true rfl) (Nat.le_of_ble_eq_true rfl)
theorem c_slength (hi : i < 5) : Ct G yJ0_length_8abf5 cJ0_length_8abf5 1 (some .int) 2 0 0 z σ [.ref (EXT + i)] (some (.int (nI (lnS i)))) z σ := by
  refine Ct.ofJ RJ0 rfl [some (.ref (EXT + i))] rfl (by decide) Nat.le.refl ?_
  refine j_aload_n dJ0_length_8abf5_0 rfl rfl ?_
  refine j_sgetV dJ0_length_8abf5_1 fl_J0_9 hi ?_
  refine j_slen dJ0_length_8abf5_4 hi ?_
  refine j_aload_n dJ0_length_8abf5_5 rfl rfl ?_
  refine j_callVS hi rfl (c_scoder hi) dJ0_length_8abf5_6 rfl mv_J0_335 ⟨(Nat.le_of_ble_eq_true rfl), (Nat.le_of_ble_eq_true rfl)⟩ ⟨(Nat.le_of_ble_eq_true rfl), (Nat.le_of_ble_eq_true rfl)⟩ (Nat.le_of_ble_eq_true rfl) ?_
  refine j_ishr dJ0_length_8abf5_9 ?_
  exact j_iret rfl dJ0_length_8abf5_10 (by rw [lnS_sh i hi]) rfl (Nat.le_of_ble_eq_true rfl) (Nat.le_of_ble_eq_true rfl)
theorem c_chk3 {k n : Nat} (f : Nat) (h : k < n) (hn : n < 2 ^ 31) : Ct G yJ3_checkIndex_8e157 cJ3_checkIndex_8e157 3 (some .int) 1 0 0 z σ [.int (nI k), .int (nI n), .ref f] (some (.int (nI k))) z σ := by
  refine Ct.ofJ RJ3 rfl [some (.int (nI k)), some (.int (nI n)), some (.ref f)] rfl (by decide) Nat.le.refl ?_
  refine j_iload_n dJ3_checkIndex_8e157_0 rfl rfl ?_
  refine j_if_lt 9 dJ3_checkIndex_8e157_1 (by decide) (fun b1 => by exact absurd b1 (nI_pos (by omega))) (fun b1 => ?_)
  refine j_iload_n dJ3_checkIndex_8e157_4 rfl rfl ?_
  refine j_iload_n dJ3_checkIndex_8e157_5 rfl rfl ?_
  refine j_icmp_ltN 16 dJ3_checkIndex_8e157_6 (by decide) (by omega) (by omega) (fun b6 => ?_) (fun b6 => by exfalso; omega)
  refine j_iload_n dJ3_checkIndex_8e157_16 rfl rfl ?_
  exact j_iret rfl dJ3_checkIndex_8e157_17 rfl rfl (Nat.le_of_ble_eq_true rfl) (Nat.le_of_ble_eq_true rfl)
theorem c_chk3n {k n : Nat} (h : k < n) (hn : n < 2 ^ 31) : Ct G yJ3_checkIndex_8e157 cJ3_checkIndex_8e157 3 (some .int) 1 0 0 z σ [.int (nI k), .int (nI n), .null] (some (.int (nI k))) z σ := by
  refine Ct.ofJ RJ3 rfl [some (.int (nI k)), some (.int (nI n)), some .null] rfl (by decide) Nat.le.refl ?_
  refine j_iload_n dJ3_checkIndex_8e157_0 rfl rfl ?_
  refine j_if_lt 9 dJ3_checkIndex_8e157_1 (by decide) (fun b1 => by exact absurd b1 (nI_pos (by omega))) (fun b1 => ?_)
  refine j_iload_n dJ3_checkIndex_8e157_4 rfl rfl ?_
  refine j_iload_n dJ3_checkIndex_8e157_5 rfl rfl ?_
  refine j_icmp_ltN 16 dJ3_checkIndex_8e157_6 (by decide) (by omega) (by omega) (fun b6 => ?_) (fun b6 => by exfalso; omega)
  refine j_iload_n dJ3_checkIndex_8e157_16 rfl rfl ?_
  exact j_iret rfl dJ3_checkIndex_8e157_17 rfl rfl (Nat.le_of_ble_eq_true rfl) (Nat.le_of_ble_eq_true rfl)
theorem c_chk2 {k n : Nat} (h : k < n) (hn : n < 2 ^ 31) : Ct G yJ0_checkIndex_df160 cJ0_checkIndex_df160 2 none 2 0 0 z σ [.int (nI k), .int (nI n)] none z σ := by
  refine Ct.ofJ RJ0 rfl [some (.int (nI k)), some (.int (nI n))] rfl (by decide) Nat.le.refl ?_
  have hN : J G RJ0 cJ0_checkIndex_df160 2 none (TQ G 2 0 0 none z σ) z σ 0 0 5 [some (.int (nI k)), some (.int (nI n))] [.null, .int (nI n), .int (nI k)] := by
    refine j_callS (c_chk3n h hn) dJ0_checkIndex_df160_5 rfl ms_J0_1059 ⟨(Nat.le_of_ble_eq_true rfl), (Nat.le_of_ble_eq_true rfl)⟩ ⟨(Nat.le_of_ble_eq_true rfl), (Nat.le_of_ble_eq_true rfl)⟩ (Nat.le_of_ble_eq_true rfl) ?_
    refine j_pop dJ0_checkIndex_df160_8 rfl ?_
    exact j_vret rfl dJ0_checkIndex_df160_9 rfl (Nat.le_of_ble_eq_true rfl) (Nat.le_of_ble_eq_true rfl)
  refine j_iload_n dJ0_checkIndex_df160_0 rfl rfl ?_
  refine j_iload_n dJ0_checkIndex_df160_1 rfl rfl ?_
  refine j_getsQ "jdk/internal/util/Preconditions" "SIOOBE_FORMATTER" "Ljava/util/function/BiFunction;" (EXT + 300) dJ0_checkIndex_df160_2 fl_J0_1053 (fun _ _ h => h.2.2.2.2.2.2.2.2.2) hN ?_
  refine j_callS (c_chk3 (EXT + 300) h hn) dJ0_checkIndex_df160_5 rfl ms_J0_1059 ⟨(Nat.le_of_ble_eq_true rfl), (Nat.le_of_ble_eq_true rfl)⟩ ⟨(Nat.le_of_ble_eq_true rfl), (Nat.le_of_ble_eq_true rfl)⟩ (Nat.le_of_ble_eq_true rfl) ?_
  refine j_pop dJ0_checkIndex_df160_8 rfl ?_
  exact j_vret rfl dJ0_checkIndex_df160_9 rfl (Nat.le_of_ble_eq_true rfl) (Nat.le_of_ble_eq_true rfl)
theorem c_slchar {k : Nat} (hi : i < 5) (h : k < lnS i) : Ct G yJ1_charAt_3b067 cJ1_charAt_3b067 2 (some .char) 3 0 0 z σ [.ref (EXT + 100 + i), .int (nI k)] (some (.int (chS i k))) z σ := by
  refine Ct.ofJ RJ1 rfl [some (.ref (EXT + 100 + i)), some (.int (nI k))] rfl (by decide) Nat.le.refl ?_
  have h6 := (lnS_le i hi).2
  refine j_iload_n dJ1_charAt_3b067_0 rfl rfl ?_
  refine j_aload_n dJ1_charAt_3b067_1 rfl rfl ?_
  refine j_slen dJ1_charAt_3b067_2 hi ?_
  refine j_callS (c_chk2 h (by omega)) dJ1_charAt_3b067_3 rfl ms_J1_9 ⟨(Nat.le_of_ble_eq_true rfl), (Nat.le_of_ble_eq_true rfl)⟩ ⟨(Nat.le_of_ble_eq_true rfl), (Nat.le_of_ble_eq_true rfl)⟩ (Nat.le_of_ble_eq_true rfl) ?_
  refine j_aload_n dJ1_charAt_3b067_6 rfl rfl ?_
  refine j_iload_n dJ1_charAt_3b067_7 rfl rfl ?_
  refine j_sbald dJ1_charAt_3b067_8 hi h ?_
  refine j_sipush (nI 255) dJ1_charAt_3b067_9 rfl ?_
  refine j_iand dJ1_charAt_3b067_12 ?_
  refine j_i2c dJ1_charAt_3b067_13 ?_
  exact j_zret .char rfl (chS_ok i hi k h).2 dJ1_charAt_3b067_14 rfl rfl (Nat.le_of_ble_eq_true rfl) (Nat.le_of_ble_eq_true rfl)
  done
theorem c_scharAt {k : Nat} (hi : i < 5) (h : k < lnS i) : Ct G yJ0_charAt_5068e cJ0_charAt_5068e 2 (some .char) 4 0 0 z σ [.ref (EXT + i), .int (nI k)] (some (.int (btS i k))) z σ := by
  rw [← (chS_ok i hi k h).1]
  refine Ct.ofJ RJ0 rfl [some (.ref (EXT + i)), some (.int (nI k))] rfl (by decide) Nat.le.refl ?_
  refine j_aload_n dJ0_charAt_5068e_0 rfl rfl ?_
  refine j_callVS hi rfl (c_slatin hi) dJ0_charAt_5068e_1 rfl mv_J0_492 ⟨(Nat.le_of_ble_eq_true rfl), (Nat.le_of_ble_eq_true rfl)⟩ ⟨(Nat.le_of_ble_eq_true rfl), (Nat.le_of_ble_eq_true rfl)⟩ (Nat.le_of_ble_eq_true rfl) ?_
  refine j_top (nI 1) rfl ?_
  refine j_if_eq 16 dJ0_charAt_5068e_4 (by decide) (fun h => absurd h (by decide)) (fun _ => ?_)
  refine j_aload_n dJ0_charAt_5068e_7 rfl rfl ?_
  refine j_sgetV dJ0_charAt_5068e_8 fl_J0_9 hi ?_
  refine j_iload_n dJ0_charAt_5068e_11 rfl rfl ?_
  refine j_callS (c_slchar hi h) dJ0_charAt_5068e_12 rfl ms_J0_495 ⟨(Nat.le_of_ble_eq_true rfl), (Nat.le_of_ble_eq_true rfl)⟩ ⟨(Nat.le_of_ble_eq_true rfl), (Nat.le_of_ble_eq_true rfl)⟩ (Nat.le_of_ble_eq_true rfl) ?_
  exact j_zret .char rfl (chS_ok i hi k h).2 dJ0_charAt_5068e_15 rfl rfl (Nat.le_of_ble_eq_true rfl) (Nat.le_of_ble_eq_true rfl)
  done
end S1

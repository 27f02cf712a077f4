/-! THE MODEL's calls: run -/
theorem dX6_run_0 : decode cX6_run 0 = .ok (.aload_n 0, 1) := by decide +kernel
theorem dX6_run_1 : decode cX6_run 1 = .ok (.getfield 7, 3) := by decide +kernel
theorem dX6_run_4 : decode cX6_run 4 = .ok (.iconst 0, 1) := by decide +kernel
theorem dX6_run_5 : decode cX6_run 5 = .ok (.iaload, 1) := by decide +kernel
theorem dX6_run_6 : decode cX6_run 6 = .ok (.ifCond .ne 6, 3) := by decide +kernel
theorem dX6_run_9 : decode cX6_run 9 = .ok (.ldc 163, 2) := by decide +kernel
theorem dX6_run_11 : decode cX6_run 11 = .ok (.ireturn, 1) := by decide +kernel
theorem dX6_run_12 : decode cX6_run 12 = .ok (.iload_n 1, 1) := by decide +kernel
theorem dX6_run_13 : decode cX6_run 13 = .ok (.i2l, 1) := by decide +kernel
theorem dX6_run_14 : decode cX6_run 14 = .ok (.lconst 1, 1) := by decide +kernel
theorem dX6_run_15 : decode cX6_run 15 = .ok (.ldc2_w 170, 3) := by decide +kernel
theorem dX6_run_18 : decode cX6_run 18 = .ok (.invokestatic 54, 3) := by decide +kernel
theorem dX6_run_21 : decode cX6_run 21 = .ok (.ifCond .eq 15, 3) := by decide +kernel
theorem dX6_run_24 : decode cX6_run 24 = .ok (.iload_n 2, 1) := by decide +kernel
theorem dX6_run_25 : decode cX6_run 25 = .ok (.i2l, 1) := by decide +kernel
theorem dX6_run_26 : decode cX6_run 26 = .ok (.lconst 0, 1) := by decide +kernel
theorem dX6_run_27 : decode cX6_run 27 = .ok (.ldc2_w 62, 3) := by decide +kernel
theorem dX6_run_30 : decode cX6_run 30 = .ok (.invokestatic 54, 3) := by decide +kernel
theorem dX6_run_33 : decode cX6_run 33 = .ok (.ifCond .ne 6, 3) := by decide +kernel
theorem dX6_run_36 : decode cX6_run 36 = .ok (.ldc 64, 2) := by decide +kernel
theorem dX6_run_38 : decode cX6_run 38 = .ok (.ireturn, 1) := by decide +kernel
theorem dX6_run_39 : decode cX6_run 39 = .ok (.aload_n 0, 1) := by decide +kernel
theorem dX6_run_40 : decode cX6_run 40 = .ok (.invokevirtual 195, 3) := by decide +kernel
theorem dX6_run_43 : decode cX6_run 43 = .ok (.iconst 0, 1) := by decide +kernel
theorem dX6_run_44 : decode cX6_run 44 = .ok (.istore_n 3, 1) := by decide +kernel
theorem dX6_run_45 : decode cX6_run 45 = .ok (.iconst 0, 1) := by decide +kernel
theorem dX6_run_46 : decode cX6_run 46 = .ok (.istore 4, 2) := by decide +kernel
theorem dX6_run_48 : decode cX6_run 48 = .ok (.iload 4, 2) := by decide +kernel
theorem dX6_run_50 : decode cX6_run 50 = .ok (.aload_n 0, 1) := by decide +kernel
theorem dX6_run_51 : decode cX6_run 51 = .ok (.getfield 7, 3) := by decide +kernel
theorem dX6_run_54 : decode cX6_run 54 = .ok (.iconst 2, 1) := by decide +kernel
theorem dX6_run_55 : decode cX6_run 55 = .ok (.iaload, 1) := by decide +kernel
theorem dX6_run_56 : decode cX6_run 56 = .ok (.if_icmp .ge 43, 3) := by decide +kernel
theorem dX6_run_59 : decode cX6_run 59 = .ok (.iload_n 3, 1) := by decide +kernel
theorem dX6_run_60 : decode cX6_run 60 = .ok (.aload_n 0, 1) := by decide +kernel
theorem dX6_run_61 : decode cX6_run 61 = .ok (.getfield 7, 3) := by decide +kernel
theorem dX6_run_64 : decode cX6_run 64 = .ok (.bipush 18, 2) := by decide +kernel
theorem dX6_run_66 : decode cX6_run 66 = .ok (.iload 4, 2) := by decide +kernel
theorem dX6_run_68 : decode cX6_run 68 = .ok (.iadd, 1) := by decide +kernel
theorem dX6_run_69 : decode cX6_run 69 = .ok (.iaload, 1) := by decide +kernel
theorem dX6_run_70 : decode cX6_run 70 = .ok (.ifCond .ne 20, 3) := by decide +kernel
theorem dX6_run_73 : decode cX6_run 73 = .ok (.aload_n 0, 1) := by decide +kernel
theorem dX6_run_74 : decode cX6_run 74 = .ok (.iload 4, 2) := by decide +kernel
theorem dX6_run_76 : decode cX6_run 76 = .ok (.invokevirtual 172, 3) := by decide +kernel
theorem dX6_run_79 : decode cX6_run 79 = .ok (.iload_n 1, 1) := by decide +kernel
theorem dX6_run_80 : decode cX6_run 80 = .ok (.if_icmp .lt 10, 3) := by decide +kernel
theorem dX6_run_83 : decode cX6_run 83 = .ok (.iconst 1, 1) := by decide +kernel
theorem dX6_run_84 : decode cX6_run 84 = .ok (.iload 4, 2) := by decide +kernel
theorem dX6_run_86 : decode cX6_run 86 = .ok (.ishl, 1) := by decide +kernel
theorem dX6_run_87 : decode cX6_run 87 = .ok (.goto 4, 3) := by decide +kernel
theorem dX6_run_90 : decode cX6_run 90 = .ok (.iconst 0, 1) := by decide +kernel
theorem dX6_run_91 : decode cX6_run 91 = .ok (.ior, 1) := by decide +kernel
theorem dX6_run_92 : decode cX6_run 92 = .ok (.istore_n 3, 1) := by decide +kernel
theorem dX6_run_93 : decode cX6_run 93 = .ok (.iinc 4 1, 3) := by decide +kernel
theorem dX6_run_96 : decode cX6_run 96 = .ok (.goto (-48), 3) := by decide +kernel
theorem dX6_run_99 : decode cX6_run 99 = .ok (.iconst 0, 1) := by decide +kernel
theorem dX6_run_100 : decode cX6_run 100 = .ok (.istore 4, 2) := by decide +kernel
theorem dX6_run_102 : decode cX6_run 102 = .ok (.iload_n 3, 1) := by decide +kernel
theorem dX6_run_103 : decode cX6_run 103 = .ok (.istore 5, 2) := by decide +kernel
theorem dX6_run_105 : decode cX6_run 105 = .ok (.iconst 0, 1) := by decide +kernel
theorem dX6_run_106 : decode cX6_run 106 = .ok (.istore 6, 2) := by decide +kernel
theorem dX6_run_108 : decode cX6_run 108 = .ok (.iload 5, 2) := by decide +kernel
theorem dX6_run_110 : decode cX6_run 110 = .ok (.ifCond .eq 160, 3) := by decide +kernel
theorem dX6_run_113 : decode cX6_run 113 = .ok (.iinc 4 1, 3) := by decide +kernel
theorem dX6_run_116 : decode cX6_run 116 = .ok (.iconst 0, 1) := by decide +kernel
theorem dX6_run_117 : decode cX6_run 117 = .ok (.istore 6, 2) := by decide +kernel
theorem dX6_run_119 : decode cX6_run 119 = .ok (.iload_n 3, 1) := by decide +kernel
theorem dX6_run_120 : decode cX6_run 120 = .ok (.istore 7, 2) := by decide +kernel
theorem dX6_run_122 : decode cX6_run 122 = .ok (.iconst 0, 1) := by decide +kernel
theorem dX6_run_123 : decode cX6_run 123 = .ok (.istore 8, 2) := by decide +kernel
theorem dX6_run_125 : decode cX6_run 125 = .ok (.iload 8, 2) := by decide +kernel
theorem dX6_run_127 : decode cX6_run 127 = .ok (.aload_n 0, 1) := by decide +kernel
theorem dX6_run_128 : decode cX6_run 128 = .ok (.getfield 7, 3) := by decide +kernel
theorem dX6_run_131 : decode cX6_run 131 = .ok (.iconst 2, 1) := by decide +kernel
theorem dX6_run_132 : decode cX6_run 132 = .ok (.iaload, 1) := by decide +kernel
theorem dX6_run_133 : decode cX6_run 133 = .ok (.if_icmp .ge 123, 3) := by decide +kernel
theorem dX6_run_136 : decode cX6_run 136 = .ok (.iload_n 3, 1) := by decide +kernel
theorem dX6_run_137 : decode cX6_run 137 = .ok (.iload 8, 2) := by decide +kernel
theorem dX6_run_139 : decode cX6_run 139 = .ok (.ishr, 1) := by decide +kernel
theorem dX6_run_140 : decode cX6_run 140 = .ok (.iconst 1, 1) := by decide +kernel
theorem dX6_run_141 : decode cX6_run 141 = .ok (.iand, 1) := by decide +kernel
theorem dX6_run_142 : decode cX6_run 142 = .ok (.iconst 1, 1) := by decide +kernel
theorem dX6_run_143 : decode cX6_run 143 = .ok (.if_icmp .ne 13, 3) := by decide +kernel
theorem dX6_run_146 : decode cX6_run 146 = .ok (.aload_n 0, 1) := by decide +kernel
theorem dX6_run_147 : decode cX6_run 147 = .ok (.getfield 13, 3) := by decide +kernel
theorem dX6_run_150 : decode cX6_run 150 = .ok (.iload 8, 2) := by decide +kernel
theorem dX6_run_152 : decode cX6_run 152 = .ok (.invokestatic 181, 3) := by decide +kernel
theorem dX6_run_155 : decode cX6_run 155 = .ok (.pop, 1) := by decide +kernel
theorem dX6_run_156 : decode cX6_run 156 = .ok (.iconst 0, 1) := by decide +kernel
theorem dX6_run_157 : decode cX6_run 157 = .ok (.istore 9, 2) := by decide +kernel
theorem dX6_run_159 : decode cX6_run 159 = .ok (.iload 9, 2) := by decide +kernel
theorem dX6_run_161 : decode cX6_run 161 = .ok (.aload_n 0, 1) := by decide +kernel
theorem dX6_run_162 : decode cX6_run 162 = .ok (.getfield 7, 3) := by decide +kernel
theorem dX6_run_165 : decode cX6_run 165 = .ok (.iconst 2, 1) := by decide +kernel
theorem dX6_run_166 : decode cX6_run 166 = .ok (.iaload, 1) := by decide +kernel
theorem dX6_run_167 : decode cX6_run 167 = .ok (.if_icmp .ge 83, 3) := by decide +kernel
theorem dX6_run_170 : decode cX6_run 170 = .ok (.iload_n 3, 1) := by decide +kernel
theorem dX6_run_171 : decode cX6_run 171 = .ok (.iload 8, 2) := by decide +kernel
theorem dX6_run_173 : decode cX6_run 173 = .ok (.ishr, 1) := by decide +kernel
theorem dX6_run_174 : decode cX6_run 174 = .ok (.iconst 1, 1) := by decide +kernel
theorem dX6_run_175 : decode cX6_run 175 = .ok (.iand, 1) := by decide +kernel
theorem dX6_run_176 : decode cX6_run 176 = .ok (.iconst 1, 1) := by decide +kernel
theorem dX6_run_177 : decode cX6_run 177 = .ok (.if_icmp .ne 73, 3) := by decide +kernel
theorem dX6_run_180 : decode cX6_run 180 = .ok (.iload 7, 2) := by decide +kernel
theorem dX6_run_182 : decode cX6_run 182 = .ok (.aload_n 0, 1) := by decide +kernel
theorem dX6_run_183 : decode cX6_run 183 = .ok (.getfield 13, 3) := by decide +kernel
theorem dX6_run_186 : decode cX6_run 186 = .ok (.bipush 40, 2) := by decide +kernel
theorem dX6_run_188 : decode cX6_run 188 = .ok (.bipush 7, 2) := by decide +kernel
theorem dX6_run_190 : decode cX6_run 190 = .ok (.iload 8, 2) := by decide +kernel
theorem dX6_run_192 : decode cX6_run 192 = .ok (.imul, 1) := by decide +kernel
theorem dX6_run_193 : decode cX6_run 193 = .ok (.iadd, 1) := by decide +kernel
theorem dX6_run_194 : decode cX6_run 194 = .ok (.iload 9, 2) := by decide +kernel
theorem dX6_run_196 : decode cX6_run 196 = .ok (.iadd, 1) := by decide +kernel
theorem dX6_run_197 : decode cX6_run 197 = .ok (.iaload, 1) := by decide +kernel
theorem dX6_run_198 : decode cX6_run 198 = .ok (.ifCond .le 10, 3) := by decide +kernel
theorem dX6_run_201 : decode cX6_run 201 = .ok (.iconst 1, 1) := by decide +kernel
theorem dX6_run_202 : decode cX6_run 202 = .ok (.iload 9, 2) := by decide +kernel
theorem dX6_run_204 : decode cX6_run 204 = .ok (.ishl, 1) := by decide +kernel
theorem dX6_run_205 : decode cX6_run 205 = .ok (.goto 4, 3) := by decide +kernel
theorem dX6_run_208 : decode cX6_run 208 = .ok (.iconst 0, 1) := by decide +kernel
theorem dX6_run_209 : decode cX6_run 209 = .ok (.ior, 1) := by decide +kernel
theorem dX6_run_210 : decode cX6_run 210 = .ok (.istore 7, 2) := by decide +kernel
theorem dX6_run_212 : decode cX6_run 212 = .ok (.iload 6, 2) := by decide +kernel
theorem dX6_run_214 : decode cX6_run 214 = .ok (.aload_n 0, 1) := by decide +kernel
theorem dX6_run_215 : decode cX6_run 215 = .ok (.getfield 13, 3) := by decide +kernel
theorem dX6_run_218 : decode cX6_run 218 = .ok (.bipush 40, 2) := by decide +kernel
theorem dX6_run_220 : decode cX6_run 220 = .ok (.bipush 7, 2) := by decide +kernel
theorem dX6_run_222 : decode cX6_run 222 = .ok (.iload 8, 2) := by decide +kernel
theorem dX6_run_224 : decode cX6_run 224 = .ok (.imul, 1) := by decide +kernel
theorem dX6_run_225 : decode cX6_run 225 = .ok (.iadd, 1) := by decide +kernel
theorem dX6_run_226 : decode cX6_run 226 = .ok (.iload 9, 2) := by decide +kernel
theorem dX6_run_228 : decode cX6_run 228 = .ok (.iadd, 1) := by decide +kernel
theorem dX6_run_229 : decode cX6_run 229 = .ok (.iaload, 1) := by decide +kernel
theorem dX6_run_230 : decode cX6_run 230 = .ok (.ifCond .le 10, 3) := by decide +kernel
theorem dX6_run_233 : decode cX6_run 233 = .ok (.iconst 1, 1) := by decide +kernel
theorem dX6_run_234 : decode cX6_run 234 = .ok (.iload 8, 2) := by decide +kernel
theorem dX6_run_236 : decode cX6_run 236 = .ok (.ishl, 1) := by decide +kernel
theorem dX6_run_237 : decode cX6_run 237 = .ok (.goto 4, 3) := by decide +kernel
theorem dX6_run_240 : decode cX6_run 240 = .ok (.iconst 0, 1) := by decide +kernel
theorem dX6_run_241 : decode cX6_run 241 = .ok (.ior, 1) := by decide +kernel
theorem dX6_run_242 : decode cX6_run 242 = .ok (.istore 6, 2) := by decide +kernel
theorem dX6_run_244 : decode cX6_run 244 = .ok (.iinc 9 1, 3) := by decide +kernel
theorem dX6_run_247 : decode cX6_run 247 = .ok (.goto (-88), 3) := by decide +kernel
theorem dX6_run_250 : decode cX6_run 250 = .ok (.iinc 8 1, 3) := by decide +kernel
theorem dX6_run_253 : decode cX6_run 253 = .ok (.goto (-128), 3) := by decide +kernel
theorem dX6_run_256 : decode cX6_run 256 = .ok (.iload 7, 2) := by decide +kernel
theorem dX6_run_258 : decode cX6_run 258 = .ok (.iload_n 3, 1) := by decide +kernel
theorem dX6_run_259 : decode cX6_run 259 = .ok (.iconst (-1), 1) := by decide +kernel
theorem dX6_run_260 : decode cX6_run 260 = .ok (.ixor, 1) := by decide +kernel
theorem dX6_run_261 : decode cX6_run 261 = .ok (.iand, 1) := by decide +kernel
theorem dX6_run_262 : decode cX6_run 262 = .ok (.istore 5, 2) := by decide +kernel
theorem dX6_run_264 : decode cX6_run 264 = .ok (.iload 7, 2) := by decide +kernel
theorem dX6_run_266 : decode cX6_run 266 = .ok (.istore_n 3, 1) := by decide +kernel
theorem dX6_run_267 : decode cX6_run 267 = .ok (.goto (-159), 3) := by decide +kernel
theorem dX6_run_270 : decode cX6_run 270 = .ok (.iload_n 2, 1) := by decide +kernel
theorem dX6_run_271 : decode cX6_run 271 = .ok (.ifCond .ne 8, 3) := by decide +kernel
theorem dX6_run_274 : decode cX6_run 274 = .ok (.iload 4, 2) := by decide +kernel
theorem dX6_run_276 : decode cX6_run 276 = .ok (.goto 14, 3) := by decide +kernel
theorem dX6_run_279 : decode cX6_run 279 = .ok (.iload_n 2, 1) := by decide +kernel
theorem dX6_run_280 : decode cX6_run 280 = .ok (.iconst 1, 1) := by decide +kernel
theorem dX6_run_281 : decode cX6_run 281 = .ok (.if_icmp .ne 8, 3) := by decide +kernel
theorem dX6_run_284 : decode cX6_run 284 = .ok (.iload 6, 2) := by decide +kernel
theorem dX6_run_286 : decode cX6_run 286 = .ok (.goto 4, 3) := by decide +kernel
theorem dX6_run_289 : decode cX6_run 289 = .ok (.iload_n 3, 1) := by decide +kernel
theorem dX6_run_290 : decode cX6_run 290 = .ok (.ireturn, 1) := by decide +kernel
/-! bits of sets -/
def lowB (x : Int32) : Prop := ∀ k, 7 ≤ k → x.toBitVec.getLsbD k = false
def pcB (x : Int32) : Nat → Nat
  | 0 => 0
  | k + 1 => pcB x k + (if x.toBitVec.getLsbD k = true then 1 else 0)
theorem pcB_le (x : Int32) : ∀ k, pcB x k ≤ k
  | 0 => Nat.le_refl 0
  | k + 1 => by
    have := pcB_le x k
    show pcB x k + (if x.toBitVec.getLsbD k = true then 1 else 0) ≤ k + 1
    split <;> omega
theorem pcB_mono {x y : Int32} (h : ∀ k, x.toBitVec.getLsbD k = true → y.toBitVec.getLsbD k = true) : ∀ k, pcB x k ≤ pcB y k
  | 0 => Nat.le_refl 0
  | k + 1 => by
    have := pcB_mono h k
    show pcB x k + (if x.toBitVec.getLsbD k = true then 1 else 0) ≤ pcB y k + (if y.toBitVec.getLsbD k = true then 1 else 0)
    by_cases c : x.toBitVec.getLsbD k = true
    · rw [if_pos c, if_pos (h k c)]; omega
    · rw [if_neg c]; omega
theorem pcB_lt {x y : Int32} (h : ∀ k, x.toBitVec.getLsbD k = true → y.toBitVec.getLsbD k = true) {j : Nat} (h1 : x.toBitVec.getLsbD j = false) (h2 : y.toBitVec.getLsbD j = true) : ∀ k, j < k → pcB x k + 1 ≤ pcB y k
  | 0, hk => absurd hk (by omega)
  | k + 1, hk => by
    show pcB x k + (if x.toBitVec.getLsbD k = true then 1 else 0) + 1 ≤ pcB y k + (if y.toBitVec.getLsbD k = true then 1 else 0)
    by_cases e : j = k
    · subst e
      have := pcB_mono h j
      rw [if_neg (by rw [h1]; decide), if_pos h2]; omega
    · have := pcB_lt h h1 h2 k (by omega)
      by_cases c : x.toBitVec.getLsbD k = true
      · rw [if_pos c, if_pos (h k c)]; omega
      · rw [if_neg c]; omega
theorem lowB_0 : lowB (nI 0) := by
  intro k _
  have e2 : (nI 0).toBitVec = 0#32 := rfl
  rw [e2]; simp
theorem low_bit {x : Int32} (h : lowB x) (h0 : ¬ x = 0) : ∃ k, k < 7 ∧ x.toBitVec.getLsbD k = true := by
  apply Classical.byContradiction
  intro w
  apply h0
  apply Int32.toBitVec_inj.mp
  apply BitVec.eq_of_getLsbD_eq
  intro i hi
  have e : x.toBitVec.getLsbD i = false := by
    by_cases c : i < 7
    · cases q : x.toBitVec.getLsbD i with
      | false => rfl
      | true => exact absurd ⟨i, c, q⟩ w
    · exact h i (by omega)
  rw [e]
  have e2 : (0 : Int32).toBitVec = 0#32 := rfl
  rw [e2]; simp
theorem or_get (x y : Int32) (k : Nat) : (x ||| y).toBitVec.getLsbD k = (x.toBitVec.getLsbD k || y.toBitVec.getLsbD k) := by
  show (x.toBitVec ||| y.toBitVec).getLsbD k = _
  rw [BitVec.getLsbD_or]
theorem ad_get (x y : Int32) {k : Nat} (hk : k < 32) : (x &&& (y ^^^ (-1))).toBitVec.getLsbD k = (x.toBitVec.getLsbD k && !y.toBitVec.getLsbD k) := by
  show (x.toBitVec &&& (y.toBitVec ^^^ (-1 : Int32).toBitVec)).getLsbD k = _
  rw [show (-1 : Int32).toBitVec = BitVec.allOnes 32 from by decide, BitVec.getLsbD_and, BitVec.getLsbD_xor, BitVec.getLsbD_allOnes]
  have : decide (k < 32) = true := by simp [hk]
  rw [this]
  cases x.toBitVec.getLsbD k <;> cases y.toBitVec.getLsbD k <;> rfl
theorem get_hi (x : Int32) {k : Nat} (hk : ¬ k < 32) : x.toBitVec.getLsbD k = false := BitVec.getLsbD_of_ge _ _ (by omega)
theorem i32_ext {x y : Int32} (h : ∀ k, k < 32 → x.toBitVec.getLsbD k = y.toBitVec.getLsbD k) : x = y := Int32.toBitVec_inj.mp (BitVec.eq_of_getLsbD_eq h)
theorem fr_1 (c x : Int32) : (c ||| x) &&& (c ^^^ (-1)) = x &&& (c ^^^ (-1)) := by
  apply i32_ext
  intro k hk
  rw [ad_get _ _ hk, ad_get _ _ hk, or_get]
  cases c.toBitVec.getLsbD k <;> cases x.toBitVec.getLsbD k <;> rfl
theorem fr_2 (c x : Int32) : c ||| (x &&& (c ^^^ (-1))) = c ||| x := by
  apply i32_ext
  intro k hk
  rw [or_get, or_get, ad_get _ _ hk]
  cases c.toBitVec.getLsbD k <;> cases x.toBitVec.getLsbD k <;> rfl
theorem or_as (x y v : Int32) : (x ||| y) ||| v = x ||| (y ||| v) := by
  apply i32_ext
  intro k hk
  rw [or_get, or_get, or_get, or_get, Bool.or_assoc]
theorem orI_get (x : Int32) {j k : Nat} (hk : k < 7) (hj : j < 32) : (orI x k).toBitVec.getLsbD j = (x.toBitVec.getLsbD j || decide (j = k)) := by
  show (x.toBitVec ||| (nI 1 <<< (nI k &&& 31)).toBitVec).getLsbD j = _
  rw [BitVec.getLsbD_or, shl_bv _ (by omega), one_shl j k (by omega) (by omega)]
theorem lowB_or {x : Int32} (h : lowB x) {k : Nat} (hk : k < 7) : lowB (orI x k) := by
  intro j hj
  by_cases c : j < 32
  · rw [orI_get x hk c, h j hj]; simp; omega
  · exact get_hi _ c
theorem lowB_or2 {x y : Int32} (h : lowB x) (h2 : lowB y) : lowB (x ||| y) := by
  intro j hj
  rw [or_get, h j hj, h2 j hj]; rfl
theorem orI_tw (x : Int32) {k : Nat} (hk : k < 7) : orI (orI x k) k = orI x k := by
  apply i32_ext
  intro j hj
  rw [orI_get _ hk hj, orI_get _ hk hj]
  cases x.toBitVec.getLsbD j <;> cases decide (j = k) <;> rfl
theorem lowB_seen {pa de : Nat → Int32} {hi x : Int32} {N u : Nat} : ∀ {k : Nat}, k ≤ 7 → lowB (seenI pa de hi x N u k)
  | 0, _ => lowB_0
  | k + 1, hk => by
    have ih := lowB_seen (pa := pa) (de := de) (hi := hi) (x := x) (N := N) (u := u) (k := k) (by omega)
    show lowB (if bitI hi (nI k) = 0 ∧ x ≤ lks pa de N u k then orI (seenI pa de hi x N u k) k else seenI pa de hi x N u k)
    split
    · exact lowB_or ih (by omega)
    · exact ih
theorem lowB_lendB {de : Nat → Int32} {so s : Int32} {a : Nat} (h : lowB s) : ∀ {k : Nat}, k ≤ 7 → lowB (lendB de so a k s)
  | 0, _ => h
  | k + 1, hk => by
    have ih := lowB_lendB (de := de) (so := so) (a := a) h (k := k) (by omega)
    show lowB (if bitI so (nI a) = nI 1 ∧ 0 < de (a * 7 + k) then orI (lendB de so a k s) k else lendB de so a k s)
    split
    · exact lowB_or ih (by omega)
    · exact ih
/-- lenders, added to those who are called -/
def lndF (de : Nat → Int32) (so : Int32) (N : Nat) (c : Int32) : Nat → Int32 := fun k => iter (fun a s => lendB de so a N s) k c
theorem lndF_low {de : Nat → Int32} {so c : Int32} {N : Nat} (hN : N ≤ 7) (h : lowB c) : ∀ {k : Nat}, lowB (lndF de so N c k)
  | 0 => h
  | k + 1 => lowB_lendB (lndF_low hN h (k := k)) hN
theorem lendB_or {de : Nat → Int32} {so c s : Int32} {a : Nat} : ∀ {k : Nat}, lendB de so a k (c ||| s) = c ||| lendB de so a k s
  | 0 => rfl
  | k + 1 => by
    have ih := lendB_or (de := de) (so := so) (c := c) (s := s) (a := a) (k := k)
    show (if bitI so (nI a) = nI 1 ∧ 0 < de (a * 7 + k) then orI (lendB de so a k (c ||| s)) k else lendB de so a k (c ||| s)) = c ||| (if bitI so (nI a) = nI 1 ∧ 0 < de (a * 7 + k) then orI (lendB de so a k s) k else lendB de so a k s)
    rw [ih]
    split
    · exact or_as _ _ _
    · rfl
theorem lndF_or {de : Nat → Int32} {so c : Int32} {N : Nat} : ∀ {k : Nat}, lndF de so N c k = c ||| lndF de so N (nI 0) k
  | 0 => (or_z c).symm
  | k + 1 => by
    show lendB de so k N (lndF de so N c k) = c ||| lendB de so k N (lndF de so N (nI 0) k)
    rw [lndF_or (k := k), lendB_or]
/-! a round -/
theorem stA_row {N : Nat} {so : Int32} {C D : Nat → Int32} {q b : Nat} (hN : N ≤ 7) (hb : b < 7) : ∀ {i : Nat}, q < i → (stA N so C D i).2.1 (q * 7 + b) = (stA N so C D (q + 1)).2.1 (q * 7 + b)
  | 0, h => absurd h (by omega)
  | i + 1, h => by
    by_cases e : q = i
    · subst e; rfl
    · have h2 := stA_row (so := so) (C := C) (D := D) (q := q) hN hb (i := i) (by omega)
      rw [← h2]
      by_cases c : bitI so (nI i) = nI 1
      · rw [show stA N so C D (i + 1) = ((stl i (stA N so C D i).1 (stA N so C D i).2.1 N).1, (stl i (stA N so C D i).1 (stA N so C D i).2.1 N).2.1, if 0 < dsum (stl i (stA N so C D i).1 (stA N so C D i).2.1 N).2.1 N i then orI (stA N so C D i).2.2 i else (stA N so C D i).2.2) from if_pos c]
        exact stl_row (by omega)
      · rw [show stA N so C D (i + 1) = stA N so C D i from if_neg c]
theorem stA_bit {N : Nat} {so : Int32} {C D : Nat → Int32} {q : Nat} (hN : N ≤ 7) (hq : q < 7) : ∀ {i : Nat}, i ≤ 7 → (bitI (stA N so C D i).2.2 (nI q) = nI 1 ↔ (q < i ∧ bitI so (nI q) = nI 1 ∧ 0 < dsum (stA N so C D (q + 1)).2.1 N q))
  | 0, _ => ⟨fun h => absurd (show bitI (nI 0) (nI q) = nI 1 from h) (by rw [bitI_get _ (by omega), if_neg (by have e2 : (nI 0).toBitVec = 0#32 := rfl; rw [e2]; simp)]; decide), fun h => absurd h.1 (by omega)⟩
  | i + 1, hi => by
    have ih := stA_bit (so := so) (C := C) (D := D) (q := q) hN hq (i := i) (by omega)
    by_cases c : bitI so (nI i) = nI 1
    · have e : stA N so C D (i + 1) = ((stl i (stA N so C D i).1 (stA N so C D i).2.1 N).1, (stl i (stA N so C D i).1 (stA N so C D i).2.1 N).2.1, if 0 < dsum (stl i (stA N so C D i).1 (stA N so C D i).2.1 N).2.1 N i then orI (stA N so C D i).2.2 i else (stA N so C D i).2.2) := if_pos c
      have e2 : (stA N so C D (i + 1)).2.2 = if 0 < dsum (stA N so C D (i + 1)).2.1 N i then orI (stA N so C D i).2.2 i else (stA N so C D i).2.2 := by rw [e]
      rw [e2]
      by_cases k : 0 < dsum (stA N so C D (i + 1)).2.1 N i
      · rw [if_pos k, bit_or _ hq (by omega)]
        by_cases w : q = i
        · subst w; rw [if_pos rfl]; exact ⟨fun _ => ⟨by omega, c, k⟩, fun _ => rfl⟩
        · rw [if_neg w, ih]; exact ⟨fun h => ⟨by omega, h.2⟩, fun h => ⟨by omega, h.2⟩⟩
      · rw [if_neg k, ih]
        refine ⟨fun h => ⟨by omega, h.2⟩, fun h => ⟨?_, h.2⟩⟩
        by_cases w : q = i
        · subst w; exact absurd h.2.2 k
        · omega
    · have e : stA N so C D (i + 1) = stA N so C D i := if_neg c
      rw [e, ih]
      refine ⟨fun h => ⟨by omega, h.2⟩, fun h => ⟨?_, h.2⟩⟩
      by_cases w : q = i
      · subst w; exact absurd h.2.1 c
      · omega
/-- SHORT ones, one by one -/
def shB (D : Nat → Int32) (p : Nat) (s : Int32) : Nat → Int32
  | 0 => s
  | k + 1 => if 0 < D (p * 7 + k) then orI (shB D p s k) p else shB D p s k
theorem shB_no {D : Nat → Int32} {p : Nat} {s : Int32} : ∀ {k : Nat}, (∀ b, b < k → ¬ 0 < D (p * 7 + b)) → shB D p s k = s
  | 0, _ => rfl
  | k + 1, h => by
    show (if 0 < D (p * 7 + k) then orI (shB D p s k) p else shB D p s k) = s
    rw [if_neg (h k (by omega)), shB_no (fun b hb => h b (by omega))]
theorem shB_yes {D : Nat → Int32} {p : Nat} {s : Int32} (hp : p < 7) {b : Nat} (hb0 : 0 < D (p * 7 + b)) : ∀ {k : Nat}, b < k → shB D p s k = orI s p
  | 0, h => absurd h (by omega)
  | k + 1, h => by
    show (if 0 < D (p * 7 + k) then orI (shB D p s k) p else shB D p s k) = orI s p
    by_cases e : ∃ b, b < k ∧ 0 < D (p * 7 + b)
    · obtain ⟨b2, h2, h3⟩ := e
      have ih := shB_yes (s := s) hp h3 (k := k) h2
      rw [ih]
      split
      · exact orI_tw s hp
      · rfl
    · have e2 : b = k := by
        rcases (show b < k ∨ b = k by omega) with q | q
        · exact absurd ⟨b, q, hb0⟩ e
        · exact q
      subst e2
      rw [if_pos hb0, shB_no (fun b2 h2 w => e ⟨b2, h2, w⟩)]
theorem shB_N {N : Nat} {D : Nat → Int32} (hN : N ≤ 7) (hD : okD N D) {p : Nat} (hp : p < N) (s : Int32) : shB D p s N = if 0 < dsum D N p then orI s p else s := by
  by_cases c : 0 < dsum D N p
  · rw [if_pos c]
    by_cases e : ∃ b, b < N ∧ 0 < D (p * 7 + b)
    · obtain ⟨b, hb, h0⟩ := e
      exact shB_yes (by omega) h0 hb
    · exact absurd c (dsum_ex hN hD hp (fun b hb w => e ⟨b, hb, w⟩))
  · rw [if_neg c]
    exact shB_no (fun b hb w => c (dsum_pos hN hD hp hb w))
section MR
variable {G : GG} {z : Nat} {σ : AH} {a0 a1 a2 a3 a4 a5 a6 a7 a8 a9 a10 a11 : Nat → Int32} {i0 i1 i2 i3 i4 i5 i6 i7 i8 i9 i10 i11 : Int32} {d : TS}
theorem m_run_state (h : a0 0 = nI 0) (t w : Int32) : Ct G yX6_run cX6_run 10 (some .int) 6 0 0 z (mH σ a0 a1 a2 a3 a4 a5 a6 a7 a8 a9 a10 a11 i0 i1 i2 i3 i4 i5 i6 i7 i8 i9 i10 i11) [.ref 171, .int t, .int w] (some (.int (-1000002))) z (mH σ a0 a1 a2 a3 a4 a5 a6 a7 a8 a9 a10 a11 i0 i1 i2 i3 i4 i5 i6 i7 i8 i9 i10 i11) := by
  refine Ct.ofJ RX6 rfl [some (.ref 171), some (.int t), some (.int w), none, none, none, none, none, none, none] rfl (by decide) (by simp [Value.category]) ?_
  refine j_aload_n dX6_run_0 rfl rfl ?_
  refine j_getf dX6_run_1 6 0 rfl (Nat.le_of_ble_eq_true rfl) fl_X6_7 in_6 mH_o rfl ?_
  refine j_iconst (nI 0) dX6_run_4 rfl ?_
  refine j_iald dX6_run_5 mH_a0 rfl (by omega) (by decide) ?_
  refine j_top (nI 0) h ?_
  refine j_if_ne 12 dX6_run_6 (by decide) (fun h => absurd rfl h) (fun _ => ?_)
  refine j_ldc (-1000002) dX6_run_9 kc_X6_163 ?_
  exact j_iret rfl dX6_run_11 rfl rfl (Nat.le_of_ble_eq_true rfl) (Nat.le_of_ble_eq_true rfl)
theorem m_run_bad (h0 : ¬ a0 0 = 0) (t w : Int32) (h : t < nI 1 ∨ nI 9 < t ∨ w < 0 ∨ nI 2 < w) : Ct G yX6_run cX6_run 10 (some .int) 6 0 0 z (mH σ a0 a1 a2 a3 a4 a5 a6 a7 a8 a9 a10 a11 i0 i1 i2 i3 i4 i5 i6 i7 i8 i9 i10 i11) [.ref 171, .int t, .int w] (some (.int (-1000001))) z (mH σ a0 a1 a2 a3 a4 a5 a6 a7 a8 a9 a10 a11 i0 i1 i2 i3 i4 i5 i6 i7 i8 i9 i10 i11) := by
  refine Ct.ofJ RX6 rfl [some (.ref 171), some (.int t), some (.int w), none, none, none, none, none, none, none] rfl (by decide) (by simp [Value.category]) ?_
  refine j_aload_n dX6_run_0 rfl rfl ?_
  refine j_getf dX6_run_1 6 0 rfl (Nat.le_of_ble_eq_true rfl) fl_X6_7 in_6 mH_o rfl ?_
  refine j_iconst (nI 0) dX6_run_4 rfl ?_
  refine j_iald dX6_run_5 mH_a0 rfl (by omega) (by decide) ?_
  refine j_if_ne 12 dX6_run_6 (by decide) (fun b6 => ?_) (fun b6 => by exact absurd b6 h0)
  refine j_iload_n dX6_run_12 rfl rfl ?_
  refine j_i2l dX6_run_13 ?_
  refine j_lconst (1) dX6_run_14 rfl ?_
  refine j_ldc2 (9) dX6_run_15 kl_X6_170 ?_
  refine j_callS (m_in3 t (nI 1) (nI 9) rfl rfl) dX6_run_18 rfl ms_X6_54 ⟨(Nat.le_of_ble_eq_true rfl), (Nat.le_of_ble_eq_true rfl)⟩ ⟨(Nat.le_of_ble_eq_true rfl), (Nat.le_of_ble_eq_true rfl)⟩ (Nat.le_of_ble_eq_true rfl) ?_
  refine j_if_eq 36 dX6_run_21 (by decide) (fun b21 => ?_) (fun b21 => ?_)
  · refine j_ldc (-1000001) dX6_run_36 kc_X6_64 ?_
    exact j_iret rfl dX6_run_38 rfl rfl (Nat.le_of_ble_eq_true rfl) (Nat.le_of_ble_eq_true rfl)
  · refine j_iload_n dX6_run_24 rfl rfl ?_
    refine j_i2l dX6_run_25 ?_
    refine j_lconst (0) dX6_run_26 rfl ?_
    refine j_ldc2 (2) dX6_run_27 kl_X6_62 ?_
    refine j_callS (m_in3 w (nI 0) (nI 2) rfl rfl) dX6_run_30 rfl ms_X6_54 ⟨(Nat.le_of_ble_eq_true rfl), (Nat.le_of_ble_eq_true rfl)⟩ ⟨(Nat.le_of_ble_eq_true rfl), (Nat.le_of_ble_eq_true rfl)⟩ (Nat.le_of_ble_eq_true rfl) ?_
    refine j_if_ne 39 dX6_run_33 (by decide) (fun b33 => ?_) (fun b33 => ?_)
    · exact absurd h (fun q => q.elim (inI_ne b21).1 (fun q => q.elim (fun u => absurd (inI_ne b21).2 (Int32.not_le.mpr u)) (fun q => q.elim (inI_ne b33).1 (fun u => absurd (inI_ne b33).2 (Int32.not_le.mpr u)))))
    · refine j_ldc (-1000001) dX6_run_36 kc_X6_64 ?_
      exact j_iret rfl dX6_run_38 rfl rfl (Nat.le_of_ble_eq_true rfl) (Nat.le_of_ble_eq_true rfl)
/-- one round -/
theorem m_run_round {w r : Nat} {t cl nw : Int32} {C D : Nat → Int32} {M : Int} (hN : sN d ≤ 7) (hC : okC (sN d) C M) (hD : okD (sN d) D) (hM : M ≤ 1000000) (K : ∀ (o7 o8 o9 : Option Value), J G RX6 cX6_run 10 (some .int) (TQ G 6 0 0 (some (.int (if w = 0 then nI (rnL (sN d) 9 (sC d) (sD d) (seenI (sP d) (sD d) (sH d) t (sN d) (sU d) (sN d)) (seenI (sP d) (sD d) (sH d) t (sN d) (sU d) (sN d)) (nI 0) 0).2.2.2.2 else if w = 1 then (rnL (sN d) 9 (sC d) (sD d) (seenI (sP d) (sD d) (sH d) t (sN d) (sU d) (sN d)) (seenI (sP d) (sD d) (sH d) t (sN d) (sU d) (sN d)) (nI 0) 0).2.2.2.1 else (rnL (sN d) 9 (sC d) (sD d) (seenI (sP d) (sD d) (sH d) t (sN d) (sU d) (sN d)) (seenI (sP d) (sD d) (sH d) t (sN d) (sU d) (sN d)) (nI 0) 0).2.2.1))) z (mH σ (encT d) (encT ((rnL (sN d) 9 (sC d) (sD d) (seenI (sP d) (sD d) (sH d) t (sN d) (sU d) (sN d)) (seenI (sP d) (sD d) (sH d) t (sN d) (sU d) (sN d)) (nI 0) 0).1, sI d, sP d, (rnL (sN d) 9 (sC d) (sD d) (seenI (sP d) (sD d) (sH d) t (sN d) (sU d) (sN d)) (seenI (sP d) (sD d) (sH d) t (sN d) (sU d) (sN d)) (nI 0) 0).2.1, sN d, sU d, sR d, sQ d, sH d, sF d)) a2 a3 a4 a5 a6 a7 a8 a9 a10 a11 i0 i1 i2 i3 i4 i5 i6 i7 i8 i9 i10 i11)) z (mH σ (encT d) (encT ((stA (sN d) cl C D (sN d)).1, sI d, sP d, (stA (sN d) cl C D (sN d)).2.1, sN d, sU d, sR d, sQ d, sH d, sF d)) a2 a3 a4 a5 a6 a7 a8 a9 a10 a11 i0 i1 i2 i3 i4 i5 i6 i7 i8 i9 i10 i11) 0 0 108 [some (.ref 171), some (.int t), some (.int (nI w)), some (.int (cl ||| lndF (stA (sN d) cl C D (sN d)).2.1 (stA (sN d) cl C D (sN d)).2.2 (sN d) (nI 0) (sN d))), some (.int (nI (r + 1))), some (.int (lndF (stA (sN d) cl C D (sN d)).2.1 (stA (sN d) cl C D (sN d)).2.2 (sN d) (nI 0) (sN d) &&& (cl ^^^ (-1)))), some (.int (stA (sN d) cl C D (sN d)).2.2), o7, o8, o9] []) :
    ∀ (kk i : Nat) (o9 : Option Value), i ≤ sN d → sN d < i + kk → J G RX6 cX6_run 10 (some .int) (TQ G 6 0 0 (some (.int (if w = 0 then nI (rnL (sN d) 9 (sC d) (sD d) (seenI (sP d) (sD d) (sH d) t (sN d) (sU d) (sN d)) (seenI (sP d) (sD d) (sH d) t (sN d) (sU d) (sN d)) (nI 0) 0).2.2.2.2 else if w = 1 then (rnL (sN d) 9 (sC d) (sD d) (seenI (sP d) (sD d) (sH d) t (sN d) (sU d) (sN d)) (seenI (sP d) (sD d) (sH d) t (sN d) (sU d) (sN d)) (nI 0) 0).2.2.2.1 else (rnL (sN d) 9 (sC d) (sD d) (seenI (sP d) (sD d) (sH d) t (sN d) (sU d) (sN d)) (seenI (sP d) (sD d) (sH d) t (sN d) (sU d) (sN d)) (nI 0) 0).2.2.1))) z (mH σ (encT d) (encT ((rnL (sN d) 9 (sC d) (sD d) (seenI (sP d) (sD d) (sH d) t (sN d) (sU d) (sN d)) (seenI (sP d) (sD d) (sH d) t (sN d) (sU d) (sN d)) (nI 0) 0).1, sI d, sP d, (rnL (sN d) 9 (sC d) (sD d) (seenI (sP d) (sD d) (sH d) t (sN d) (sU d) (sN d)) (seenI (sP d) (sD d) (sH d) t (sN d) (sU d) (sN d)) (nI 0) 0).2.1, sN d, sU d, sR d, sQ d, sH d, sF d)) a2 a3 a4 a5 a6 a7 a8 a9 a10 a11 i0 i1 i2 i3 i4 i5 i6 i7 i8 i9 i10 i11)) z (mH σ (encT d) (encT ((stA (sN d) cl C D i).1, sI d, sP d, (stA (sN d) cl C D i).2.1, sN d, sU d, sR d, sQ d, sH d, sF d)) a2 a3 a4 a5 a6 a7 a8 a9 a10 a11 i0 i1 i2 i3 i4 i5 i6 i7 i8 i9 i10 i11) 0 0 125 [some (.ref 171), some (.int t), some (.int (nI w)), some (.int cl), some (.int (nI (r + 1))), some (.int nw), some (.int (stA (sN d) cl C D i).2.2), some (.int (lndF (stA (sN d) cl C D (sN d)).2.1 (stA (sN d) cl C D (sN d)).2.2 (sN d) cl i)), some (.int (nI i)), o9] [] := by
  intro kk
  induction kk with
  | zero => intro i o9 h1 h2; exact absurd h2 (by omega)
  | succ kk ih =>
    intro i o9 h1 h2
    by_cases hi : i < sN d
    · by_cases hc : bitI cl (nI i) = nI 1
      · have e1 : stA (sN d) cl C D (i + 1) = ((stl i (stA (sN d) cl C D i).1 (stA (sN d) cl C D i).2.1 (sN d)).1, (stl i (stA (sN d) cl C D i).1 (stA (sN d) cl C D i).2.1 (sN d)).2.1, if 0 < dsum (stl i (stA (sN d) cl C D i).1 (stA (sN d) cl C D i).2.1 (sN d)).2.1 (sN d) i then orI (stA (sN d) cl C D i).2.2 i else (stA (sN d) cl C D i).2.2) := if_pos hc
        have hA := stA_ok (so := cl) hN hC hD hM (k := i + 1) (by omega)
        have eS : (stA (sN d) cl C D (i + 1)).2.2 = shB (stA (sN d) cl C D (i + 1)).2.1 i (stA (sN d) cl C D i).2.2 (sN d) := by
          rw [shB_N hN hA.2 hi, e1]
        have eT : encT (stT ((stA (sN d) cl C D i).1, sI d, sP d, (stA (sN d) cl C D i).2.1, sN d, sU d, sR d, sQ d, sH d, sF d) i (sN d)) = encT ((stA (sN d) cl C D (i + 1)).1, sI d, sP d, (stA (sN d) cl C D (i + 1)).2.1, sN d, sU d, sR d, sQ d, sH d, sF d) := by rw [e1]; rfl
        have hrow : ∀ b, b < sN d → (stA (sN d) cl C D (i + 1)).2.1 (i * 7 + b) = (stA (sN d) cl C D (sN d)).2.1 (i * 7 + b) := fun b hb => (stA_row hN (by omega) hi).symm
        have hcond : ∀ b, b < sN d → ((bitI (stA (sN d) cl C D (sN d)).2.2 (nI i) = nI 1 ∧ 0 < (stA (sN d) cl C D (sN d)).2.1 (i * 7 + b)) ↔ 0 < (stA (sN d) cl C D (i + 1)).2.1 (i * 7 + b)) := by
          intro b hb
          rw [hrow b hb]
          refine ⟨fun q => q.2, fun q => ⟨?_, q⟩⟩
          rw [stA_bit hN (by omega) hN]
          exact ⟨hi, hc, dsum_pos hN hA.2 hi hb (by rw [hrow b hb]; exact q)⟩
        suffices H : ∀ (kk o : Nat), o ≤ sN d → sN d < o + kk → J G RX6 cX6_run 10 (some .int) (TQ G 6 0 0 (some (.int (if w = 0 then nI (rnL (sN d) 9 (sC d) (sD d) (seenI (sP d) (sD d) (sH d) t (sN d) (sU d) (sN d)) (seenI (sP d) (sD d) (sH d) t (sN d) (sU d) (sN d)) (nI 0) 0).2.2.2.2 else if w = 1 then (rnL (sN d) 9 (sC d) (sD d) (seenI (sP d) (sD d) (sH d) t (sN d) (sU d) (sN d)) (seenI (sP d) (sD d) (sH d) t (sN d) (sU d) (sN d)) (nI 0) 0).2.2.2.1 else (rnL (sN d) 9 (sC d) (sD d) (seenI (sP d) (sD d) (sH d) t (sN d) (sU d) (sN d)) (seenI (sP d) (sD d) (sH d) t (sN d) (sU d) (sN d)) (nI 0) 0).2.2.1))) z (mH σ (encT d) (encT ((rnL (sN d) 9 (sC d) (sD d) (seenI (sP d) (sD d) (sH d) t (sN d) (sU d) (sN d)) (seenI (sP d) (sD d) (sH d) t (sN d) (sU d) (sN d)) (nI 0) 0).1, sI d, sP d, (rnL (sN d) 9 (sC d) (sD d) (seenI (sP d) (sD d) (sH d) t (sN d) (sU d) (sN d)) (seenI (sP d) (sD d) (sH d) t (sN d) (sU d) (sN d)) (nI 0) 0).2.1, sN d, sU d, sR d, sQ d, sH d, sF d)) a2 a3 a4 a5 a6 a7 a8 a9 a10 a11 i0 i1 i2 i3 i4 i5 i6 i7 i8 i9 i10 i11)) z (mH σ (encT d) (encT ((stA (sN d) cl C D (i + 1)).1, sI d, sP d, (stA (sN d) cl C D (i + 1)).2.1, sN d, sU d, sR d, sQ d, sH d, sF d)) a2 a3 a4 a5 a6 a7 a8 a9 a10 a11 i0 i1 i2 i3 i4 i5 i6 i7 i8 i9 i10 i11) 0 0 159 [some (.ref 171), some (.int t), some (.int (nI w)), some (.int cl), some (.int (nI (r + 1))), some (.int nw), some (.int (shB (stA (sN d) cl C D (i + 1)).2.1 i (stA (sN d) cl C D i).2.2 o)), some (.int (lendB (stA (sN d) cl C D (sN d)).2.1 (stA (sN d) cl C D (sN d)).2.2 i o (lndF (stA (sN d) cl C D (sN d)).2.1 (stA (sN d) cl C D (sN d)).2.2 (sN d) cl i))), some (.int (nI i)), some (.int (nI o))] [] by
          refine j_iload dX6_run_125 rfl ?_
          refine j_aload_n dX6_run_127 rfl rfl ?_
          refine j_getf dX6_run_128 6 0 rfl (Nat.le_of_ble_eq_true rfl) fl_X6_7 in_6 mH_o rfl ?_
          refine j_iconst (nI 2) dX6_run_131 rfl ?_
          refine j_iald dX6_run_132 mH_a0 (k := 2) rfl (by omega) (by decide) ?_
          refine j_top (nI (sN d)) rfl ?_
          refine j_icmp_geN 256 dX6_run_133 (by decide) (by omega) (by omega) (fun b133 => by exfalso; omega) (fun b133 => ?_)
          refine j_iload_n dX6_run_136 rfl rfl ?_
          refine j_iload dX6_run_137 rfl ?_
          refine j_ishr dX6_run_139 ?_
          refine j_iconst (nI 1) dX6_run_140 rfl ?_
          refine j_iand dX6_run_141 ?_
          refine j_iconst (nI 1) dX6_run_142 rfl ?_
          refine j_icmp_ne 156 dX6_run_143 (by decide) (fun b143 => by exact absurd hc b143) (fun b143 => ?_)
          refine j_aload_n dX6_run_146 rfl rfl ?_
          refine j_getf dX6_run_147 6 1 rfl (Nat.le_of_ble_eq_true rfl) fl_X6_13 in_6 mH_o rfl ?_
          refine j_iload dX6_run_150 rfl ?_
          refine j_callS (m_pays (d := ((stA (sN d) cl C D i).1, sI d, sP d, (stA (sN d) cl C D i).2.1, sN d, sU d, sR d, sQ d, sH d, sF d)) mH_a1 hN hi) dX6_run_152 rfl ms_X6_181 ⟨(Nat.le_of_ble_eq_true rfl), (Nat.le_of_ble_eq_true rfl)⟩ ⟨(Nat.le_of_ble_eq_true rfl), (Nat.le_of_ble_eq_true rfl)⟩ (Nat.le_of_ble_eq_true rfl) ?_
          rw [mH_s1, eT]
          refine j_pop dX6_run_155 rfl ?_
          refine j_iconst (nI 0) dX6_run_156 rfl ?_
          refine j_istore dX6_run_157 (Nat.le_of_ble_eq_true rfl) rfl ?_
          exact H (sN d + 1) 0 (by omega) (by omega)
        intro kk2
        induction kk2 with
        | zero => intro o h1 h2; exact absurd h2 (by omega)
        | succ kk2 ih2 =>
          intro o h1o h2o
          by_cases ho : o < sN d
          · have eD := enc_d (d := ((stA (sN d) cl C D (i + 1)).1, sI d, sP d, (stA (sN d) cl C D (i + 1)).2.1, sN d, sU d, sR d, sQ d, sH d, sF d)) hN hi ho
            have l1 : lendB (stA (sN d) cl C D (sN d)).2.1 (stA (sN d) cl C D (sN d)).2.2 i (o + 1) (lndF (stA (sN d) cl C D (sN d)).2.1 (stA (sN d) cl C D (sN d)).2.2 (sN d) cl i) = if bitI (stA (sN d) cl C D (sN d)).2.2 (nI i) = nI 1 ∧ 0 < (stA (sN d) cl C D (sN d)).2.1 (i * 7 + o) then orI (lendB (stA (sN d) cl C D (sN d)).2.1 (stA (sN d) cl C D (sN d)).2.2 i o (lndF (stA (sN d) cl C D (sN d)).2.1 (stA (sN d) cl C D (sN d)).2.2 (sN d) cl i)) o else lendB (stA (sN d) cl C D (sN d)).2.1 (stA (sN d) cl C D (sN d)).2.2 i o (lndF (stA (sN d) cl C D (sN d)).2.1 (stA (sN d) cl C D (sN d)).2.2 (sN d) cl i) := rfl
            have s1 : shB (stA (sN d) cl C D (i + 1)).2.1 i (stA (sN d) cl C D i).2.2 (o + 1) = if 0 < (stA (sN d) cl C D (i + 1)).2.1 (i * 7 + o) then orI (shB (stA (sN d) cl C D (i + 1)).2.1 i (stA (sN d) cl C D i).2.2 o) i else shB (stA (sN d) cl C D (i + 1)).2.1 i (stA (sN d) cl C D i).2.2 o := rfl
            have ih3 := ih2 (o + 1) (by omega) (by omega)
            by_cases hp : 0 < (stA (sN d) cl C D (i + 1)).2.1 (i * 7 + o)
            · rw [l1, s1, if_pos ((hcond o ho).mpr hp), if_pos hp] at ih3
              refine j_iload dX6_run_159 rfl ?_
              refine j_aload_n dX6_run_161 rfl rfl ?_
              refine j_getf dX6_run_162 6 0 rfl (Nat.le_of_ble_eq_true rfl) fl_X6_7 in_6 mH_o rfl ?_
              refine j_iconst (nI 2) dX6_run_165 rfl ?_
              refine j_iald dX6_run_166 mH_a0 (k := 2) rfl (by omega) (by decide) ?_
              refine j_top (nI (sN d)) rfl ?_
              refine j_icmp_geN 250 dX6_run_167 (by decide) (by omega) (by omega) (fun b167 => by exfalso; omega) (fun b167 => ?_)
              refine j_iload_n dX6_run_170 rfl rfl ?_
              refine j_iload dX6_run_171 rfl ?_
              refine j_ishr dX6_run_173 ?_
              refine j_iconst (nI 1) dX6_run_174 rfl ?_
              refine j_iand dX6_run_175 ?_
              refine j_iconst (nI 1) dX6_run_176 rfl ?_
              refine j_icmp_ne 250 dX6_run_177 (by decide) (fun b177 => by exact absurd hc b177) (fun b177 => ?_)
              refine j_iload dX6_run_180 rfl ?_
              refine j_aload_n dX6_run_182 rfl rfl ?_
              refine j_getf dX6_run_183 6 1 rfl (Nat.le_of_ble_eq_true rfl) fl_X6_13 in_6 mH_o rfl ?_
              refine j_bipush (nI 40) dX6_run_186 rfl ?_
              refine j_bipush (nI 7) dX6_run_188 rfl ?_
              refine j_iload dX6_run_190 rfl ?_
              first | refine j_imulN dX6_run_192 ?_ | refine j_imul dX6_run_192 ?_
              first | refine j_iaddN dX6_run_193 ?_ | refine j_iadd dX6_run_193 ?_
              refine j_iload dX6_run_194 rfl ?_
              first | refine j_iaddN dX6_run_196 ?_ | refine j_iadd dX6_run_196 ?_
              refine j_iald dX6_run_197 mH_a1 rfl (by omega) (by decide) ?_
              refine j_top _ eD ?_
              refine j_if_le 208 dX6_run_198 (by decide) (fun b198 => by exact absurd hp (Int32.not_lt.mpr b198)) (fun b198 => ?_)
              refine j_iconst (nI 1) dX6_run_201 rfl ?_
              refine j_iload dX6_run_202 rfl ?_
              refine j_ishl dX6_run_204 ?_
              refine j_goto 209 dX6_run_205 (by decide) ?_
              refine j_ior dX6_run_209 ?_
              refine j_istore dX6_run_210 (Nat.le_of_ble_eq_true rfl) rfl ?_
              refine j_iload dX6_run_212 rfl ?_
              refine j_aload_n dX6_run_214 rfl rfl ?_
              refine j_getf dX6_run_215 6 1 rfl (Nat.le_of_ble_eq_true rfl) fl_X6_13 in_6 mH_o rfl ?_
              refine j_bipush (nI 40) dX6_run_218 rfl ?_
              refine j_bipush (nI 7) dX6_run_220 rfl ?_
              refine j_iload dX6_run_222 rfl ?_
              first | refine j_imulN dX6_run_224 ?_ | refine j_imul dX6_run_224 ?_
              first | refine j_iaddN dX6_run_225 ?_ | refine j_iadd dX6_run_225 ?_
              refine j_iload dX6_run_226 rfl ?_
              first | refine j_iaddN dX6_run_228 ?_ | refine j_iadd dX6_run_228 ?_
              refine j_iald dX6_run_229 mH_a1 rfl (by omega) (by decide) ?_
              refine j_top _ eD ?_
              refine j_if_le 240 dX6_run_230 (by decide) (fun b230 => by exact absurd hp (Int32.not_lt.mpr b230)) (fun b230 => ?_)
              refine j_iconst (nI 1) dX6_run_233 rfl ?_
              refine j_iload dX6_run_234 rfl ?_
              refine j_ishl dX6_run_236 ?_
              refine j_goto 241 dX6_run_237 (by decide) ?_
              refine j_ior dX6_run_241 ?_
              refine j_istore dX6_run_242 (Nat.le_of_ble_eq_true rfl) rfl ?_
              first | refine j_iincN dX6_run_244 rfl (Nat.le_of_ble_eq_true rfl) rfl ?_ | refine j_iinc _ dX6_run_244 rfl rfl (Nat.le_of_ble_eq_true rfl) rfl ?_
              refine j_goto 159 dX6_run_247 (by decide) ?_
              exact ih3
            · rw [l1, s1, if_neg (fun q => hp ((hcond o ho).mp q)), if_neg hp] at ih3
              refine j_iload dX6_run_159 rfl ?_
              refine j_aload_n dX6_run_161 rfl rfl ?_
              refine j_getf dX6_run_162 6 0 rfl (Nat.le_of_ble_eq_true rfl) fl_X6_7 in_6 mH_o rfl ?_
              refine j_iconst (nI 2) dX6_run_165 rfl ?_
              refine j_iald dX6_run_166 mH_a0 (k := 2) rfl (by omega) (by decide) ?_
              refine j_top (nI (sN d)) rfl ?_
              refine j_icmp_geN 250 dX6_run_167 (by decide) (by omega) (by omega) (fun b167 => by exfalso; omega) (fun b167 => ?_)
              refine j_iload_n dX6_run_170 rfl rfl ?_
              refine j_iload dX6_run_171 rfl ?_
              refine j_ishr dX6_run_173 ?_
              refine j_iconst (nI 1) dX6_run_174 rfl ?_
              refine j_iand dX6_run_175 ?_
              refine j_iconst (nI 1) dX6_run_176 rfl ?_
              refine j_icmp_ne 250 dX6_run_177 (by decide) (fun b177 => by exact absurd hc b177) (fun b177 => ?_)
              refine j_iload dX6_run_180 rfl ?_
              refine j_aload_n dX6_run_182 rfl rfl ?_
              refine j_getf dX6_run_183 6 1 rfl (Nat.le_of_ble_eq_true rfl) fl_X6_13 in_6 mH_o rfl ?_
              refine j_bipush (nI 40) dX6_run_186 rfl ?_
              refine j_bipush (nI 7) dX6_run_188 rfl ?_
              refine j_iload dX6_run_190 rfl ?_
              first | refine j_imulN dX6_run_192 ?_ | refine j_imul dX6_run_192 ?_
              first | refine j_iaddN dX6_run_193 ?_ | refine j_iadd dX6_run_193 ?_
              refine j_iload dX6_run_194 rfl ?_
              first | refine j_iaddN dX6_run_196 ?_ | refine j_iadd dX6_run_196 ?_
              refine j_iald dX6_run_197 mH_a1 rfl (by omega) (by decide) ?_
              refine j_top _ eD ?_
              refine j_if_le 208 dX6_run_198 (by decide) (fun b198 => ?_) (fun b198 => by exact absurd (Int32.not_le.mp b198) hp)
              refine j_iconst (nI 0) dX6_run_208 rfl ?_
              refine j_ior dX6_run_209 ?_
              refine j_top _ (or_z _) ?_
              refine j_istore dX6_run_210 (Nat.le_of_ble_eq_true rfl) rfl ?_
              refine j_iload dX6_run_212 rfl ?_
              refine j_aload_n dX6_run_214 rfl rfl ?_
              refine j_getf dX6_run_215 6 1 rfl (Nat.le_of_ble_eq_true rfl) fl_X6_13 in_6 mH_o rfl ?_
              refine j_bipush (nI 40) dX6_run_218 rfl ?_
              refine j_bipush (nI 7) dX6_run_220 rfl ?_
              refine j_iload dX6_run_222 rfl ?_
              first | refine j_imulN dX6_run_224 ?_ | refine j_imul dX6_run_224 ?_
              first | refine j_iaddN dX6_run_225 ?_ | refine j_iadd dX6_run_225 ?_
              refine j_iload dX6_run_226 rfl ?_
              first | refine j_iaddN dX6_run_228 ?_ | refine j_iadd dX6_run_228 ?_
              refine j_iald dX6_run_229 mH_a1 rfl (by omega) (by decide) ?_
              refine j_top _ eD ?_
              refine j_if_le 240 dX6_run_230 (by decide) (fun b230 => ?_) (fun b230 => by exact absurd (Int32.not_le.mp b230) hp)
              refine j_iconst (nI 0) dX6_run_240 rfl ?_
              refine j_ior dX6_run_241 ?_
              refine j_top _ (or_z _) ?_
              refine j_istore dX6_run_242 (Nat.le_of_ble_eq_true rfl) rfl ?_
              first | refine j_iincN dX6_run_244 rfl (Nat.le_of_ble_eq_true rfl) rfl ?_ | refine j_iinc _ dX6_run_244 rfl rfl (Nat.le_of_ble_eq_true rfl) rfl ?_
              refine j_goto 159 dX6_run_247 (by decide) ?_
              exact ih3
          · obtain rfl : o = sN d := by omega
            refine j_iload dX6_run_159 rfl ?_
            refine j_aload_n dX6_run_161 rfl rfl ?_
            refine j_getf dX6_run_162 6 0 rfl (Nat.le_of_ble_eq_true rfl) fl_X6_7 in_6 mH_o rfl ?_
            refine j_iconst (nI 2) dX6_run_165 rfl ?_
            refine j_iald dX6_run_166 mH_a0 (k := 2) rfl (by omega) (by decide) ?_
            refine j_top (nI (sN d)) rfl ?_
            refine j_icmp_geN 250 dX6_run_167 (by decide) (by omega) (by omega) (fun b167 => ?_) (fun b167 => by exfalso; omega)
            first | refine j_iincN dX6_run_250 rfl (Nat.le_of_ble_eq_true rfl) rfl ?_ | refine j_iinc _ dX6_run_250 rfl rfl (Nat.le_of_ble_eq_true rfl) rfl ?_
            refine j_goto 125 dX6_run_253 (by decide) ?_
            rw [← eS]
            exact ih (i + 1) _ (by omega) (by omega)
      · have e1 : stA (sN d) cl C D (i + 1) = stA (sN d) cl C D i := if_neg hc
        have hb : ¬ bitI (stA (sN d) cl C D (sN d)).2.2 (nI i) = nI 1 := fun q => hc ((stA_bit hN (by omega) hN).mp q).2.1
        have el : ∀ (k : Nat) (s : Int32), lendB (stA (sN d) cl C D (sN d)).2.1 (stA (sN d) cl C D (sN d)).2.2 i k s = s := by
          intro k s
          induction k with
          | zero => rfl
          | succ k ih => exact (if_neg (fun q => hb q.1)).trans ih
        have ih3 := fun o9 => ih (i + 1) o9 (by omega) (by omega)
        rw [e1, show lndF (stA (sN d) cl C D (sN d)).2.1 (stA (sN d) cl C D (sN d)).2.2 (sN d) cl (i + 1) = lndF (stA (sN d) cl C D (sN d)).2.1 (stA (sN d) cl C D (sN d)).2.2 (sN d) cl i from el _ _] at ih3
        refine j_iload dX6_run_125 rfl ?_
        refine j_aload_n dX6_run_127 rfl rfl ?_
        refine j_getf dX6_run_128 6 0 rfl (Nat.le_of_ble_eq_true rfl) fl_X6_7 in_6 mH_o rfl ?_
        refine j_iconst (nI 2) dX6_run_131 rfl ?_
        refine j_iald dX6_run_132 mH_a0 (k := 2) rfl (by omega) (by decide) ?_
        refine j_top (nI (sN d)) rfl ?_
        refine j_icmp_geN 256 dX6_run_133 (by decide) (by omega) (by omega) (fun b133 => by exfalso; omega) (fun b133 => ?_)
        refine j_iload_n dX6_run_136 rfl rfl ?_
        refine j_iload dX6_run_137 rfl ?_
        refine j_ishr dX6_run_139 ?_
        refine j_iconst (nI 1) dX6_run_140 rfl ?_
        refine j_iand dX6_run_141 ?_
        refine j_iconst (nI 1) dX6_run_142 rfl ?_
        refine j_icmp_ne 156 dX6_run_143 (by decide) (fun b143 => ?_) (fun b143 => by exact absurd b143 hc)
        refine j_iconst (nI 0) dX6_run_156 rfl ?_
        refine j_istore dX6_run_157 (Nat.le_of_ble_eq_true rfl) rfl ?_
        refine j_iload dX6_run_159 rfl ?_
        refine j_aload_n dX6_run_161 rfl rfl ?_
        refine j_getf dX6_run_162 6 0 rfl (Nat.le_of_ble_eq_true rfl) fl_X6_7 in_6 mH_o rfl ?_
        refine j_iconst (nI 2) dX6_run_165 rfl ?_
        refine j_iald dX6_run_166 mH_a0 (k := 2) rfl (by omega) (by decide) ?_
        refine j_top (nI (sN d)) rfl ?_
        refine j_icmp_geN 250 dX6_run_167 (by decide) (by omega) (by omega) (fun b167 => by exfalso; omega) (fun b167 => ?_)
        refine j_iload_n dX6_run_170 rfl rfl ?_
        refine j_iload dX6_run_171 rfl ?_
        refine j_ishr dX6_run_173 ?_
        refine j_iconst (nI 1) dX6_run_174 rfl ?_
        refine j_iand dX6_run_175 ?_
        refine j_iconst (nI 1) dX6_run_176 rfl ?_
        refine j_icmp_ne 250 dX6_run_177 (by decide) (fun b177 => ?_) (fun b177 => by exact absurd b177 hc)
        first | refine j_iincN dX6_run_250 rfl (Nat.le_of_ble_eq_true rfl) rfl ?_ | refine j_iinc _ dX6_run_250 rfl rfl (Nat.le_of_ble_eq_true rfl) rfl ?_
        refine j_goto 125 dX6_run_253 (by decide) ?_
        exact ih3 _
    · obtain rfl : i = sN d := by omega
      refine j_iload dX6_run_125 rfl ?_
      refine j_aload_n dX6_run_127 rfl rfl ?_
      refine j_getf dX6_run_128 6 0 rfl (Nat.le_of_ble_eq_true rfl) fl_X6_7 in_6 mH_o rfl ?_
      refine j_iconst (nI 2) dX6_run_131 rfl ?_
      refine j_iald dX6_run_132 mH_a0 (k := 2) rfl (by omega) (by decide) ?_
      refine j_top (nI (sN d)) rfl ?_
      refine j_icmp_geN 256 dX6_run_133 (by decide) (by omega) (by omega) (fun b133 => ?_) (fun b133 => by exfalso; omega)
      refine j_iload dX6_run_256 rfl ?_
      refine j_iload_n dX6_run_258 rfl rfl ?_
      refine j_iconst (-1) dX6_run_259 rfl ?_
      refine j_ixor dX6_run_260 ?_
      refine j_iand dX6_run_261 ?_
      refine j_top (lndF (stA (sN d) cl C D (sN d)).2.1 (stA (sN d) cl C D (sN d)).2.2 (sN d) (nI 0) (sN d) &&& (cl ^^^ (-1))) (by rw [lndF_or (c := cl)]; exact fr_1 _ _) ?_
      refine j_istore dX6_run_262 (Nat.le_of_ble_eq_true rfl) rfl ?_
      refine j_iload dX6_run_264 rfl ?_
      refine j_top (cl ||| lndF (stA (sN d) cl C D (sN d)).2.1 (stA (sN d) cl C D (sN d)).2.2 (sN d) (nI 0) (sN d)) lndF_or ?_
      refine j_istore_n dX6_run_266 rfl (Nat.le_of_ble_eq_true rfl) rfl ?_
      refine j_goto 108 dX6_run_267 (by decide) ?_
      exact K _ _ _
theorem m_run_loop {w : Nat} {t : Int32} {M : Int} (hN : sN d ≤ 7) (hM : M ≤ 1000000) (hw : w ≤ 2) :
    ∀ (f r : Nat) (C D : Nat → Int32) (cl nw ow : Int32) (o7 o8 o9 : Option Value), r + f = 9 → okC (sN d) C M → okD (sN d) D → lowB cl → lowB nw → (¬ nw = 0 → r + 1 ≤ pcB cl 7) → rnL (sN d) f C D cl nw ow r = rnL (sN d) 9 (sC d) (sD d) (seenI (sP d) (sD d) (sH d) t (sN d) (sU d) (sN d)) (seenI (sP d) (sD d) (sH d) t (sN d) (sU d) (sN d)) (nI 0) 0 →
      J G RX6 cX6_run 10 (some .int) (TQ G 6 0 0 (some (.int (if w = 0 then nI (rnL (sN d) 9 (sC d) (sD d) (seenI (sP d) (sD d) (sH d) t (sN d) (sU d) (sN d)) (seenI (sP d) (sD d) (sH d) t (sN d) (sU d) (sN d)) (nI 0) 0).2.2.2.2 else if w = 1 then (rnL (sN d) 9 (sC d) (sD d) (seenI (sP d) (sD d) (sH d) t (sN d) (sU d) (sN d)) (seenI (sP d) (sD d) (sH d) t (sN d) (sU d) (sN d)) (nI 0) 0).2.2.2.1 else (rnL (sN d) 9 (sC d) (sD d) (seenI (sP d) (sD d) (sH d) t (sN d) (sU d) (sN d)) (seenI (sP d) (sD d) (sH d) t (sN d) (sU d) (sN d)) (nI 0) 0).2.2.1))) z (mH σ (encT d) (encT ((rnL (sN d) 9 (sC d) (sD d) (seenI (sP d) (sD d) (sH d) t (sN d) (sU d) (sN d)) (seenI (sP d) (sD d) (sH d) t (sN d) (sU d) (sN d)) (nI 0) 0).1, sI d, sP d, (rnL (sN d) 9 (sC d) (sD d) (seenI (sP d) (sD d) (sH d) t (sN d) (sU d) (sN d)) (seenI (sP d) (sD d) (sH d) t (sN d) (sU d) (sN d)) (nI 0) 0).2.1, sN d, sU d, sR d, sQ d, sH d, sF d)) a2 a3 a4 a5 a6 a7 a8 a9 a10 a11 i0 i1 i2 i3 i4 i5 i6 i7 i8 i9 i10 i11)) z (mH σ (encT d) (encT (C, sI d, sP d, D, sN d, sU d, sR d, sQ d, sH d, sF d)) a2 a3 a4 a5 a6 a7 a8 a9 a10 a11 i0 i1 i2 i3 i4 i5 i6 i7 i8 i9 i10 i11) 0 0 108 [some (.ref 171), some (.int t), some (.int (nI w)), some (.int cl), some (.int (nI r)), some (.int nw), some (.int ow), o7, o8, o9] [] := by
  intro f
  induction f with
  | zero =>
    intro r C D cl nw ow o7 o8 o9 hr hC hD lc ln hp he
    have h0 : nw = 0 := Classical.byContradiction (fun q => by have := hp q; have := pcB_le cl 7; omega)
    have he : (C, D, cl, ow, r) = rnL (sN d) 9 (sC d) (sD d) (seenI (sP d) (sD d) (sH d) t (sN d) (sU d) (sN d)) (seenI (sP d) (sD d) (sH d) t (sN d) (sU d) (sN d)) (nI 0) 0 := he
    rw [← he]
    refine j_iload dX6_run_108 rfl ?_
    refine j_if_eq 270 dX6_run_110 (by decide) (fun b110 => ?_) (fun b110 => by exact absurd h0 b110)
    refine j_iload_n dX6_run_270 rfl rfl ?_
    refine j_if_ne 279 dX6_run_271 (by decide) (fun b271 => ?_) (fun b271 => ?_)
    · have w0 : w ≠ 0 := fun e => b271 (by rw [e]; rfl)
      refine j_iload_n dX6_run_279 rfl rfl ?_
      refine j_iconst (nI 1) dX6_run_280 rfl ?_
      refine j_icmp_neN 289 dX6_run_281 (by decide) (by omega) (by omega) (fun b281 => ?_) (fun b281 => ?_)
      · refine j_iload_n dX6_run_289 rfl rfl ?_
        exact j_iret rfl dX6_run_290 (by first | rfl | rw [if_neg w0, if_pos b281] | rw [if_neg w0, if_neg b281] | done) rfl (Nat.le_of_ble_eq_true rfl) (Nat.le_of_ble_eq_true rfl)
      · refine j_iload dX6_run_284 rfl ?_
        refine j_goto 290 dX6_run_286 (by decide) ?_
        exact j_iret rfl dX6_run_290 (by first | rfl | rw [if_neg w0, if_pos b281] | rw [if_neg w0, if_neg b281] | done) rfl (Nat.le_of_ble_eq_true rfl) (Nat.le_of_ble_eq_true rfl)
    · obtain rfl : w = 0 := (nI_eq (b := 0) (by omega) (by omega)).mp b271
      refine j_iload dX6_run_274 rfl ?_
      refine j_goto 290 dX6_run_276 (by decide) ?_
      exact j_iret rfl dX6_run_290 (by first | rfl | rw [if_neg w0, if_pos b281] | rw [if_neg w0, if_neg b281] | done) rfl (Nat.le_of_ble_eq_true rfl) (Nat.le_of_ble_eq_true rfl)
  | succ f ih =>
    intro r C D cl nw ow o7 o8 o9 hr hC hD lc ln hp he
    by_cases h0 : nw = 0
    · have he : (C, D, cl, ow, r) = rnL (sN d) 9 (sC d) (sD d) (seenI (sP d) (sD d) (sH d) t (sN d) (sU d) (sN d)) (seenI (sP d) (sD d) (sH d) t (sN d) (sU d) (sN d)) (nI 0) 0 := by rw [← he]; exact (if_pos h0).symm
      rw [← he]
      refine j_iload dX6_run_108 rfl ?_
      refine j_if_eq 270 dX6_run_110 (by decide) (fun b110 => ?_) (fun b110 => by exact absurd h0 b110)
      refine j_iload_n dX6_run_270 rfl rfl ?_
      refine j_if_ne 279 dX6_run_271 (by decide) (fun b271 => ?_) (fun b271 => ?_)
      · have w0 : w ≠ 0 := fun e => b271 (by rw [e]; rfl)
        refine j_iload_n dX6_run_279 rfl rfl ?_
        refine j_iconst (nI 1) dX6_run_280 rfl ?_
        refine j_icmp_neN 289 dX6_run_281 (by decide) (by omega) (by omega) (fun b281 => ?_) (fun b281 => ?_)
        · refine j_iload_n dX6_run_289 rfl rfl ?_
          exact j_iret rfl dX6_run_290 (by first | rfl | rw [if_neg w0, if_pos b281] | rw [if_neg w0, if_neg b281] | done) rfl (Nat.le_of_ble_eq_true rfl) (Nat.le_of_ble_eq_true rfl)
        · refine j_iload dX6_run_284 rfl ?_
          refine j_goto 290 dX6_run_286 (by decide) ?_
          exact j_iret rfl dX6_run_290 (by first | rfl | rw [if_neg w0, if_pos b281] | rw [if_neg w0, if_neg b281] | done) rfl (Nat.le_of_ble_eq_true rfl) (Nat.le_of_ble_eq_true rfl)
      · obtain rfl : w = 0 := (nI_eq (b := 0) (by omega) (by omega)).mp b271
        refine j_iload dX6_run_274 rfl ?_
        refine j_goto 290 dX6_run_276 (by decide) ?_
        exact j_iret rfl dX6_run_290 (by first | rfl | rw [if_neg w0, if_pos b281] | rw [if_neg w0, if_neg b281] | done) rfl (Nat.le_of_ble_eq_true rfl) (Nat.le_of_ble_eq_true rfl)
    · have hpc := hp h0
      have hpl := pcB_le cl 7
      have hA := stA_ok (so := cl) hN hC hD hM (k := sN d) (Nat.le_refl _)
      have hll : lowB (lndF (stA (sN d) cl C D (sN d)).2.1 (stA (sN d) cl C D (sN d)).2.2 (sN d) (nI 0) (sN d)) := lndF_low hN lowB_0
      have hln : lowB (lndF (stA (sN d) cl C D (sN d)).2.1 (stA (sN d) cl C D (sN d)).2.2 (sN d) (nI 0) (sN d) &&& (cl ^^^ (-1))) := by
        intro k hk
        by_cases c : k < 32
        · rw [ad_get _ _ c, hll k hk]; rfl
        · exact get_hi _ c
      have he2 : rnL (sN d) f (stA (sN d) cl C D (sN d)).1 (stA (sN d) cl C D (sN d)).2.1 (cl ||| lndF (stA (sN d) cl C D (sN d)).2.1 (stA (sN d) cl C D (sN d)).2.2 (sN d) (nI 0) (sN d)) (lndF (stA (sN d) cl C D (sN d)).2.1 (stA (sN d) cl C D (sN d)).2.2 (sN d) (nI 0) (sN d) &&& (cl ^^^ (-1))) (stA (sN d) cl C D (sN d)).2.2 (r + 1) = rnL (sN d) 9 (sC d) (sD d) (seenI (sP d) (sD d) (sH d) t (sN d) (sU d) (sN d)) (seenI (sP d) (sD d) (sH d) t (sN d) (sU d) (sN d)) (nI 0) 0 := by
        rw [← he]
        rw [← fr_2 cl (lndF (stA (sN d) cl C D (sN d)).2.1 (stA (sN d) cl C D (sN d)).2.2 (sN d) (nI 0) (sN d))]
        show _ = (if nw = 0 then _ else if 7 < r then _ else _)
        rw [if_neg h0, if_neg (show ¬ 7 < r by omega)]
        rfl
      have K := fun o7 o8 o9 => ih (r + 1) _ _ _ _ _ o7 o8 o9 (by omega) hA.1 hA.2 (lowB_or2 lc hll) hln (fun q => by
        obtain ⟨k, hk, hb⟩ := low_bit hln q
        rw [ad_get _ _ (by omega)] at hb
        have hb1 : (lndF (stA (sN d) cl C D (sN d)).2.1 (stA (sN d) cl C D (sN d)).2.2 (sN d) (nI 0) (sN d)).toBitVec.getLsbD k = true := by
          cases hx : (lndF (stA (sN d) cl C D (sN d)).2.1 (stA (sN d) cl C D (sN d)).2.2 (sN d) (nI 0) (sN d)).toBitVec.getLsbD k with
          | true => rfl
          | false => rw [hx] at hb; exact absurd hb (by simp)
        have hb2 : cl.toBitVec.getLsbD k = false := by
          cases hx : cl.toBitVec.getLsbD k with
          | false => rfl
          | true => rw [hx] at hb; exact absurd hb (by simp)
        have := pcB_lt (x := cl) (y := cl ||| lndF (stA (sN d) cl C D (sN d)).2.1 (stA (sN d) cl C D (sN d)).2.2 (sN d) (nI 0) (sN d)) (fun j hj => by rw [or_get, hj]; rfl) hb2 (by rw [or_get, hb1]; simp) 7 hk
        omega) he2
      refine j_iload dX6_run_108 rfl ?_
      refine j_if_eq 270 dX6_run_110 (by decide) (fun b110 => by exact absurd b110 h0) (fun b110 => ?_)
      first | refine j_iincN dX6_run_113 rfl (Nat.le_of_ble_eq_true rfl) rfl ?_ | refine j_iinc _ dX6_run_113 rfl rfl (Nat.le_of_ble_eq_true rfl) rfl ?_
      refine j_iconst (nI 0) dX6_run_116 rfl ?_
      refine j_istore dX6_run_117 (Nat.le_of_ble_eq_true rfl) rfl ?_
      refine j_iload_n dX6_run_119 rfl rfl ?_
      refine j_istore dX6_run_120 (Nat.le_of_ble_eq_true rfl) rfl ?_
      refine j_iconst (nI 0) dX6_run_122 rfl ?_
      refine j_istore dX6_run_123 (Nat.le_of_ble_eq_true rfl) rfl ?_
      exact m_run_round (nw := nw) hN hC hD hM K (sN d + 1) 0 _ (by omega) (by omega)
theorem m_run_ok {w : Nat} (t : Int32) (hk : okT d) (h1 : ¬ t < nI 1) (h2 : ¬ nI 9 < t) (hw : w ≤ 2) : Ct G yX6_run cX6_run 10 (some .int) 6 0 0 z (mH σ (encT d) a1 a2 a3 a4 a5 a6 a7 a8 a9 a10 a11 i0 i1 i2 i3 i4 i5 i6 i7 i8 i9 i10 i11) [.ref 171, .int t, .int (nI w)] (some (.int (if w = 0 then nI (rnL (sN d) 9 (sC d) (sD d) (seenI (sP d) (sD d) (sH d) t (sN d) (sU d) (sN d)) (seenI (sP d) (sD d) (sH d) t (sN d) (sU d) (sN d)) (nI 0) 0).2.2.2.2 else if w = 1 then (rnL (sN d) 9 (sC d) (sD d) (seenI (sP d) (sD d) (sH d) t (sN d) (sU d) (sN d)) (seenI (sP d) (sD d) (sH d) t (sN d) (sU d) (sN d)) (nI 0) 0).2.2.2.1 else (rnL (sN d) 9 (sC d) (sD d) (seenI (sP d) (sD d) (sH d) t (sN d) (sU d) (sN d)) (seenI (sP d) (sD d) (sH d) t (sN d) (sU d) (sN d)) (nI 0) 0).2.2.1))) z (mH σ (encT d) (encT ((rnL (sN d) 9 (sC d) (sD d) (seenI (sP d) (sD d) (sH d) t (sN d) (sU d) (sN d)) (seenI (sP d) (sD d) (sH d) t (sN d) (sU d) (sN d)) (nI 0) 0).1, sI d, sP d, (rnL (sN d) 9 (sC d) (sD d) (seenI (sP d) (sD d) (sH d) t (sN d) (sU d) (sN d)) (seenI (sP d) (sD d) (sH d) t (sN d) (sU d) (sN d)) (nI 0) 0).2.1, sN d, sU d, sR d, sQ d, sH d, sF d)) a2 a3 a4 a5 a6 a7 a8 a9 a10 a11 i0 i1 i2 i3 i4 i5 i6 i7 i8 i9 i10 i11) := by
  obtain ⟨hn, hN, hu, hu2, hr, hq, hC, hD, hI, hP⟩ := hk
  refine Ct.ofJ RX6 rfl [some (.ref 171), some (.int t), some (.int (nI w)), none, none, none, none, none, none, none] rfl (by decide) (by simp [Value.category]) ?_
  refine j_aload_n dX6_run_0 rfl rfl ?_
  refine j_getf dX6_run_1 6 0 rfl (Nat.le_of_ble_eq_true rfl) fl_X6_7 in_6 mH_o rfl ?_
  refine j_iconst (nI 0) dX6_run_4 rfl ?_
  refine j_iald dX6_run_5 mH_a0 (k := 0) rfl (by omega) (by decide) ?_
  refine j_top (nI (sU d)) rfl ?_
  refine j_if_ne 12 dX6_run_6 (by decide) (fun b6 => ?_) (fun b6 => by exact absurd b6 (nI_ne0 hu (by omega)))
  refine j_iload_n dX6_run_12 rfl rfl ?_
  refine j_i2l dX6_run_13 ?_
  refine j_lconst (1) dX6_run_14 rfl ?_
  refine j_ldc2 (9) dX6_run_15 kl_X6_170 ?_
  refine j_callS (m_in3 t (nI 1) (nI 9) rfl rfl) dX6_run_18 rfl ms_X6_54 ⟨(Nat.le_of_ble_eq_true rfl), (Nat.le_of_ble_eq_true rfl)⟩ ⟨(Nat.le_of_ble_eq_true rfl), (Nat.le_of_ble_eq_true rfl)⟩ (Nat.le_of_ble_eq_true rfl) ?_
  refine j_top (nI 1) (inI_yes h1 (Int32.not_lt.mp h2)) ?_
  refine j_if_eq 36 dX6_run_21 (by decide) (fun h => absurd h (by decide)) (fun _ => ?_)
  refine j_iload_n dX6_run_24 rfl rfl ?_
  refine j_i2l dX6_run_25 ?_
  refine j_lconst (0) dX6_run_26 rfl ?_
  refine j_ldc2 (2) dX6_run_27 kl_X6_62 ?_
  refine j_callS (m_in3 (nI w) (nI 0) (nI 2) rfl rfl) dX6_run_30 rfl ms_X6_54 ⟨(Nat.le_of_ble_eq_true rfl), (Nat.le_of_ble_eq_true rfl)⟩ ⟨(Nat.le_of_ble_eq_true rfl), (Nat.le_of_ble_eq_true rfl)⟩ (Nat.le_of_ble_eq_true rfl) ?_
  refine j_top (nI 1) (inI_N (by omega) (by omega) (by omega)) ?_
  refine j_if_ne 39 dX6_run_33 (by decide) (fun _ => ?_) (fun h => absurd h (by decide))
  refine j_aload_n dX6_run_39 rfl rfl ?_
  refine j_callV m_tries dX6_run_40 rfl mv_X6_195 mH_o rfl ⟨(Nat.le_of_ble_eq_true rfl), (Nat.le_of_ble_eq_true rfl)⟩ ⟨(Nat.le_of_ble_eq_true rfl), (Nat.le_of_ble_eq_true rfl)⟩ (Nat.le_of_ble_eq_true rfl) ?_
  refine j_iconst (nI 0) dX6_run_43 rfl ?_
  refine j_istore_n dX6_run_44 rfl (Nat.le_of_ble_eq_true rfl) rfl ?_
  refine j_iconst (nI 0) dX6_run_45 rfl ?_
  refine j_istore dX6_run_46 (Nat.le_of_ble_eq_true rfl) rfl ?_
  suffices H : ∀ (kk i : Nat), i ≤ sN d → sN d < i + kk → J G RX6 cX6_run 10 (some .int) (TQ G 6 0 0 (some (.int (if w = 0 then nI (rnL (sN d) 9 (sC d) (sD d) (seenI (sP d) (sD d) (sH d) t (sN d) (sU d) (sN d)) (seenI (sP d) (sD d) (sH d) t (sN d) (sU d) (sN d)) (nI 0) 0).2.2.2.2 else if w = 1 then (rnL (sN d) 9 (sC d) (sD d) (seenI (sP d) (sD d) (sH d) t (sN d) (sU d) (sN d)) (seenI (sP d) (sD d) (sH d) t (sN d) (sU d) (sN d)) (nI 0) 0).2.2.2.1 else (rnL (sN d) 9 (sC d) (sD d) (seenI (sP d) (sD d) (sH d) t (sN d) (sU d) (sN d)) (seenI (sP d) (sD d) (sH d) t (sN d) (sU d) (sN d)) (nI 0) 0).2.2.1))) z (mH σ (encT d) (encT ((rnL (sN d) 9 (sC d) (sD d) (seenI (sP d) (sD d) (sH d) t (sN d) (sU d) (sN d)) (seenI (sP d) (sD d) (sH d) t (sN d) (sU d) (sN d)) (nI 0) 0).1, sI d, sP d, (rnL (sN d) 9 (sC d) (sD d) (seenI (sP d) (sD d) (sH d) t (sN d) (sU d) (sN d)) (seenI (sP d) (sD d) (sH d) t (sN d) (sU d) (sN d)) (nI 0) 0).2.1, sN d, sU d, sR d, sQ d, sH d, sF d)) a2 a3 a4 a5 a6 a7 a8 a9 a10 a11 i0 i1 i2 i3 i4 i5 i6 i7 i8 i9 i10 i11)) z (mH σ (encT d) (encT d) a2 a3 a4 a5 a6 a7 a8 a9 a10 a11 i0 i1 i2 i3 i4 i5 i6 i7 i8 i9 i10 i11) 0 0 48 [some (.ref 171), some (.int t), some (.int (nI w)), some (.int (seenI (sP d) (sD d) (sH d) t (sN d) (sU d) i)), some (.int (nI i)), none, none, none, none, none] [] from H (sN d + 1) 0 (by omega) (by omega)
  intro kk
  induction kk with
  | zero => intro i h1 h2; exact absurd h2 (by omega)
  | succ kk ih =>
    intro i h1i h2i
    by_cases hi : i < sN d
    · have e1 : seenI (sP d) (sD d) (sH d) t (sN d) (sU d) (i + 1) = if bitI (sH d) (nI i) = 0 ∧ t ≤ lks (sP d) (sD d) (sN d) (sU d) i then orI (seenI (sP d) (sD d) (sH d) t (sN d) (sU d) i) i else seenI (sP d) (sD d) (sH d) t (sN d) (sU d) i := rfl
      refine j_iload dX6_run_48 rfl ?_
      refine j_aload_n dX6_run_50 rfl rfl ?_
      refine j_getf dX6_run_51 6 0 rfl (Nat.le_of_ble_eq_true rfl) fl_X6_7 in_6 mH_o rfl ?_
      refine j_iconst (nI 2) dX6_run_54 rfl ?_
      refine j_iald dX6_run_55 mH_a0 (k := 2) rfl (by omega) (by decide) ?_
      refine j_top (nI (sN d)) rfl ?_
      refine j_icmp_geN 99 dX6_run_56 (by decide) (by omega) (by omega) (fun b56 => by exfalso; omega) (fun b56 => ?_)
      refine j_iload_n dX6_run_59 rfl rfl ?_
      refine j_aload_n dX6_run_60 rfl rfl ?_
      refine j_getf dX6_run_61 6 0 rfl (Nat.le_of_ble_eq_true rfl) fl_X6_7 in_6 mH_o rfl ?_
      refine j_bipush (nI 18) dX6_run_64 rfl ?_
      refine j_iload dX6_run_66 rfl ?_
      first | refine j_iaddN dX6_run_68 ?_ | refine j_iadd dX6_run_68 ?_
      refine j_iald dX6_run_69 mH_a0 rfl (by omega) (by decide) ?_
      refine j_top _ (enc_h hN hi) ?_
      refine j_if_ne 90 dX6_run_70 (by decide) (fun b70 => ?_) (fun b70 => ?_)
      · refine j_iconst (nI 0) dX6_run_90 rfl ?_
        refine j_ior dX6_run_91 ?_
        refine j_top (seenI (sP d) (sD d) (sH d) t (sN d) (sU d) (i + 1)) (by rw [e1]; first | (rw [if_neg (fun q => b70 q.1)]; exact or_z _) | (rw [if_neg (fun q => absurd q.2 (Int32.not_le.mpr b80))]; exact or_z _) | (rw [if_pos ⟨b70, Int32.not_lt.mp b80⟩]; rfl) | done) ?_
        refine j_istore_n dX6_run_92 rfl (Nat.le_of_ble_eq_true rfl) rfl ?_
        first | refine j_iincN dX6_run_93 rfl (Nat.le_of_ble_eq_true rfl) rfl ?_ | refine j_iinc _ dX6_run_93 rfl rfl (Nat.le_of_ble_eq_true rfl) rfl ?_
        refine j_goto 48 dX6_run_96 (by decide) ?_
        exact ih (i + 1) (by omega) (by omega)
      · refine j_aload_n dX6_run_73 rfl rfl ?_
        refine j_iload dX6_run_74 rfl ?_
        refine j_callV (m_looks hN hi hu hu2 (hP i hi)) dX6_run_76 rfl mv_X6_172 mH_o rfl ⟨(Nat.le_of_ble_eq_true rfl), (Nat.le_of_ble_eq_true rfl)⟩ ⟨(Nat.le_of_ble_eq_true rfl), (Nat.le_of_ble_eq_true rfl)⟩ (Nat.le_of_ble_eq_true rfl) ?_
        refine j_iload_n dX6_run_79 rfl rfl ?_
        refine j_icmp_lt 90 dX6_run_80 (by decide) (fun b80 => ?_) (fun b80 => ?_)
        · refine j_iconst (nI 0) dX6_run_90 rfl ?_
          refine j_ior dX6_run_91 ?_
          refine j_top (seenI (sP d) (sD d) (sH d) t (sN d) (sU d) (i + 1)) (by rw [e1]; first | (rw [if_neg (fun q => b70 q.1)]; exact or_z _) | (rw [if_neg (fun q => absurd q.2 (Int32.not_le.mpr b80))]; exact or_z _) | (rw [if_pos ⟨b70, Int32.not_lt.mp b80⟩]; rfl) | done) ?_
          refine j_istore_n dX6_run_92 rfl (Nat.le_of_ble_eq_true rfl) rfl ?_
          first | refine j_iincN dX6_run_93 rfl (Nat.le_of_ble_eq_true rfl) rfl ?_ | refine j_iinc _ dX6_run_93 rfl rfl (Nat.le_of_ble_eq_true rfl) rfl ?_
          refine j_goto 48 dX6_run_96 (by decide) ?_
          exact ih (i + 1) (by omega) (by omega)
        · refine j_iconst (nI 1) dX6_run_83 rfl ?_
          refine j_iload dX6_run_84 rfl ?_
          refine j_ishl dX6_run_86 ?_
          refine j_goto 91 dX6_run_87 (by decide) ?_
          refine j_ior dX6_run_91 ?_
          refine j_top (seenI (sP d) (sD d) (sH d) t (sN d) (sU d) (i + 1)) (by rw [e1]; first | (rw [if_neg (fun q => b70 q.1)]; exact or_z _) | (rw [if_neg (fun q => absurd q.2 (Int32.not_le.mpr b80))]; exact or_z _) | (rw [if_pos ⟨b70, Int32.not_lt.mp b80⟩]; rfl) | done) ?_
          refine j_istore_n dX6_run_92 rfl (Nat.le_of_ble_eq_true rfl) rfl ?_
          first | refine j_iincN dX6_run_93 rfl (Nat.le_of_ble_eq_true rfl) rfl ?_ | refine j_iinc _ dX6_run_93 rfl rfl (Nat.le_of_ble_eq_true rfl) rfl ?_
          refine j_goto 48 dX6_run_96 (by decide) ?_
          exact ih (i + 1) (by omega) (by omega)
    · obtain rfl : i = sN d := by omega
      have hlow : lowB (seenI (sP d) (sD d) (sH d) t (sN d) (sU d) (sN d)) := lowB_seen hN
      refine j_iload dX6_run_48 rfl ?_
      refine j_aload_n dX6_run_50 rfl rfl ?_
      refine j_getf dX6_run_51 6 0 rfl (Nat.le_of_ble_eq_true rfl) fl_X6_7 in_6 mH_o rfl ?_
      refine j_iconst (nI 2) dX6_run_54 rfl ?_
      refine j_iald dX6_run_55 mH_a0 (k := 2) rfl (by omega) (by decide) ?_
      refine j_top (nI (sN d)) rfl ?_
      refine j_icmp_geN 99 dX6_run_56 (by decide) (by omega) (by omega) (fun b56 => ?_) (fun b56 => by exfalso; omega)
      refine j_iconst (nI 0) dX6_run_99 rfl ?_
      refine j_istore dX6_run_100 (Nat.le_of_ble_eq_true rfl) rfl ?_
      refine j_iload_n dX6_run_102 rfl rfl ?_
      refine j_istore dX6_run_103 (Nat.le_of_ble_eq_true rfl) rfl ?_
      refine j_iconst (nI 0) dX6_run_105 rfl ?_
      refine j_istore dX6_run_106 (Nat.le_of_ble_eq_true rfl) rfl ?_
      refine m_run_loop (M := 7000 + 700 * sQ d) hN (by omega) hw 9 0 (sC d) (sD d) _ _ _ _ _ _ rfl hC hD hlow hlow (fun q => ?_) rfl
      obtain ⟨k, hk, hb⟩ := low_bit hlow q
      have := pcB_lt (x := nI 0) (y := seenI (sP d) (sD d) (sH d) t (sN d) (sU d) (sN d)) (fun j hj => absurd hj (by rw [show (nI 0).toBitVec.getLsbD j = false from (by have e2 : (nI 0).toBitVec = 0#32 := rfl; rw [e2]; simp)]; decide)) (by have e2 : (nI 0).toBitVec = 0#32 := rfl; rw [e2]; simp) hb 7 hk
      omega
end MR

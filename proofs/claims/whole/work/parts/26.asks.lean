/-! THE ASKS: the bodies and their trace -/
def apB (bo : Nat → Int32) (tr : Nat) : List Nat → Nat → Int32
  | [] => bo
  | b :: l => apB (upd bo tr (nI b)) (tr + 1) l
abbrev akH (σ : AH) (bo : Nat → Int32) (tr : Nat) : AH := ups (ups σ 169 (.inl (0, 16, bo))) 168 (xK tr)
theorem akH2 {σ : AH} {a b a2 b2 : AE} : ups (ups (ups (ups σ 169 a) 168 b) 169 a2) 168 b2 = ups (ups σ 169 a2) 168 b2 := by
  funext k
  unfold ups
  by_cases h1 : k = 168
  · simp only [if_pos h1]
  · by_cases h2 : k = 169
    · simp only [if_neg h1, if_pos h2]
    · simp only [if_neg h1, if_neg h2]
theorem ak0 {σ : AH} {b a2 b2 : AE} : ups (ups (ups σ 168 b) 169 a2) 168 b2 = ups (ups σ 169 a2) 168 b2 := by
  funext k
  unfold ups
  by_cases h1 : k = 168
  · simp only [if_pos h1]
  · by_cases h2 : k = 169
    · simp only [if_neg h1, if_pos h2]
    · simp only [if_neg h1, if_neg h2]
theorem kindI_k (de : Nat → Int32) (fa : Int32) (N u p : Nat) : ∃ kd, 1 ≤ kd ∧ kd ≤ 5 ∧ kindI de fa N u p = nI kd := by
  unfold kindI
  split
  · exact ⟨3, by decide, by decide, rfl⟩
  · split
    · split
      · exact ⟨1, by decide, by decide, rfl⟩
      · exact ⟨2, by decide, by decide, rfl⟩
    · split
      · exact ⟨5, by decide, by decide, rfl⟩
      · exact ⟨4, by decide, by decide, rfl⟩
theorem dX1_begins_0 : decode cX1_begins 0 = .ok (.aload_n 0, 1) := by decide +kernel
theorem dX1_begins_1 : decode cX1_begins 1 = .ok (.getfield 15, 3) := by decide +kernel
theorem dX1_begins_4 : decode cX1_begins 4 = .ok (.bipush 16, 2) := by decide +kernel
theorem dX1_begins_6 : decode cX1_begins 6 = .ok (.if_icmp .ge 23, 3) := by decide +kernel
theorem dX1_begins_9 : decode cX1_begins 9 = .ok (.aload_n 0, 1) := by decide +kernel
theorem dX1_begins_10 : decode cX1_begins 10 = .ok (.getfield 9, 3) := by decide +kernel
theorem dX1_begins_13 : decode cX1_begins 13 = .ok (.aload_n 0, 1) := by decide +kernel
theorem dX1_begins_14 : decode cX1_begins 14 = .ok (.getfield 15, 3) := by decide +kernel
theorem dX1_begins_17 : decode cX1_begins 17 = .ok (.iload_n 1, 1) := by decide +kernel
theorem dX1_begins_18 : decode cX1_begins 18 = .ok (.iastore, 1) := by decide +kernel
theorem dX1_begins_19 : decode cX1_begins 19 = .ok (.aload_n 0, 1) := by decide +kernel
theorem dX1_begins_20 : decode cX1_begins 20 = .ok (.dup, 1) := by decide +kernel
theorem dX1_begins_21 : decode cX1_begins 21 = .ok (.getfield 15, 3) := by decide +kernel
theorem dX1_begins_24 : decode cX1_begins 24 = .ok (.iconst 1, 1) := by decide +kernel
theorem dX1_begins_25 : decode cX1_begins 25 = .ok (.iadd, 1) := by decide +kernel
theorem dX1_begins_26 : decode cX1_begins 26 = .ok (.putfield 15, 3) := by decide +kernel
theorem dX1_begins_29 : decode cX1_begins 29 = .ok (.return_, 1) := by decide +kernel
theorem dX1_body_0 : decode cX1_body 0 = .ok (.iload 4, 2) := by decide +kernel
theorem dX1_body_2 : decode cX1_body 2 = .ok (.bipush 8, 2) := by decide +kernel
theorem dX1_body_4 : decode cX1_body 4 = .ok (.if_icmp .lt 5, 3) := by decide +kernel
theorem dX1_body_7 : decode cX1_body 7 = .ok (.iconst 0, 1) := by decide +kernel
theorem dX1_body_8 : decode cX1_body 8 = .ok (.ireturn, 1) := by decide +kernel
theorem dX1_body_9 : decode cX1_body 9 = .ok (.aload_n 0, 1) := by decide +kernel
theorem dX1_body_10 : decode cX1_body 10 = .ok (.iload_n 1, 1) := by decide +kernel
theorem dX1_body_11 : decode cX1_body 11 = .ok (.invokevirtual 35, 3) := by decide +kernel
theorem dX1_body_14 : decode cX1_body 14 = .ok (.iload 4, 2) := by decide +kernel
theorem dX1_body_16 : decode cX1_body 16 = .ok (.iconst 1, 1) := by decide +kernel
theorem dX1_body_17 : decode cX1_body 17 = .ok (.iadd, 1) := by decide +kernel
theorem dX1_body_18 : decode cX1_body 18 = .ok (.istore 5, 2) := by decide +kernel
theorem dX1_body_20 : decode cX1_body 20 = .ok (.iload_n 1, 1) := by decide +kernel
theorem dX1_body_21 : decode cX1_body 21 = .ok (.tableswitch 226 10 24 #[75, 82, 111, 123, 137, 226, 226, 226, 226, 226, 150, 152, 169, 184, 213], 75) := by decide +kernel
theorem dX1_body_96 : decode cX1_body 96 = .ok (.aload_n 2, 1) := by decide +kernel
theorem dX1_body_97 : decode cX1_body 97 = .ok (.getfield 39, 3) := by decide +kernel
theorem dX1_body_100 : decode cX1_body 100 = .ok (.iload_n 3, 1) := by decide +kernel
theorem dX1_body_101 : decode cX1_body 101 = .ok (.iaload, 1) := by decide +kernel
theorem dX1_body_102 : decode cX1_body 102 = .ok (.ireturn, 1) := by decide +kernel
theorem dX1_body_103 : decode cX1_body 103 = .ok (.aload_n 0, 1) := by decide +kernel
theorem dX1_body_104 : decode cX1_body 104 = .ok (.bipush 10, 2) := by decide +kernel
theorem dX1_body_106 : decode cX1_body 106 = .ok (.aload_n 2, 1) := by decide +kernel
theorem dX1_body_107 : decode cX1_body 107 = .ok (.iload_n 3, 1) := by decide +kernel
theorem dX1_body_108 : decode cX1_body 108 = .ok (.iload 5, 2) := by decide +kernel
theorem dX1_body_110 : decode cX1_body 110 = .ok (.invokevirtual 31, 3) := by decide +kernel
theorem dX1_body_113 : decode cX1_body 113 = .ok (.aload_n 0, 1) := by decide +kernel
theorem dX1_body_114 : decode cX1_body 114 = .ok (.getstatic 28, 3) := by decide +kernel
theorem dX1_body_117 : decode cX1_body 117 = .ok (.aload_n 2, 1) := by decide +kernel
theorem dX1_body_118 : decode cX1_body 118 = .ok (.iload_n 3, 1) := by decide +kernel
theorem dX1_body_119 : decode cX1_body 119 = .ok (.invokevirtual 19, 3) := by decide +kernel
theorem dX1_body_122 : decode cX1_body 122 = .ok (.iaload, 1) := by decide +kernel
theorem dX1_body_123 : decode cX1_body 123 = .ok (.aload_n 2, 1) := by decide +kernel
theorem dX1_body_124 : decode cX1_body 124 = .ok (.iload_n 3, 1) := by decide +kernel
theorem dX1_body_125 : decode cX1_body 125 = .ok (.iload 5, 2) := by decide +kernel
theorem dX1_body_127 : decode cX1_body 127 = .ok (.invokevirtual 31, 3) := by decide +kernel
theorem dX1_body_130 : decode cX1_body 130 = .ok (.iadd, 1) := by decide +kernel
theorem dX1_body_131 : decode cX1_body 131 = .ok (.ireturn, 1) := by decide +kernel
theorem dX1_body_132 : decode cX1_body 132 = .ok (.aload_n 0, 1) := by decide +kernel
theorem dX1_body_133 : decode cX1_body 133 = .ok (.bipush 11, 2) := by decide +kernel
theorem dX1_body_135 : decode cX1_body 135 = .ok (.aload_n 2, 1) := by decide +kernel
theorem dX1_body_136 : decode cX1_body 136 = .ok (.iload_n 3, 1) := by decide +kernel
theorem dX1_body_137 : decode cX1_body 137 = .ok (.iload 5, 2) := by decide +kernel
theorem dX1_body_139 : decode cX1_body 139 = .ok (.invokevirtual 31, 3) := by decide +kernel
theorem dX1_body_142 : decode cX1_body 142 = .ok (.ineg, 1) := by decide +kernel
theorem dX1_body_143 : decode cX1_body 143 = .ok (.ireturn, 1) := by decide +kernel
theorem dX1_body_144 : decode cX1_body 144 = .ok (.aload_n 0, 1) := by decide +kernel
theorem dX1_body_145 : decode cX1_body 145 = .ok (.bipush 10, 2) := by decide +kernel
theorem dX1_body_147 : decode cX1_body 147 = .ok (.aload_n 2, 1) := by decide +kernel
theorem dX1_body_148 : decode cX1_body 148 = .ok (.iload_n 3, 1) := by decide +kernel
theorem dX1_body_149 : decode cX1_body 149 = .ok (.iload 5, 2) := by decide +kernel
theorem dX1_body_151 : decode cX1_body 151 = .ok (.invokevirtual 31, 3) := by decide +kernel
theorem dX1_body_154 : decode cX1_body 154 = .ok (.bipush 100, 2) := by decide +kernel
theorem dX1_body_156 : decode cX1_body 156 = .ok (.isub, 1) := by decide +kernel
theorem dX1_body_157 : decode cX1_body 157 = .ok (.ireturn, 1) := by decide +kernel
theorem dX1_body_158 : decode cX1_body 158 = .ok (.iconst 2, 1) := by decide +kernel
theorem dX1_body_159 : decode cX1_body 159 = .ok (.aload_n 0, 1) := by decide +kernel
theorem dX1_body_160 : decode cX1_body 160 = .ok (.bipush 13, 2) := by decide +kernel
theorem dX1_body_162 : decode cX1_body 162 = .ok (.aload_n 2, 1) := by decide +kernel
theorem dX1_body_163 : decode cX1_body 163 = .ok (.iload_n 3, 1) := by decide +kernel
theorem dX1_body_164 : decode cX1_body 164 = .ok (.iload 5, 2) := by decide +kernel
theorem dX1_body_166 : decode cX1_body 166 = .ok (.invokevirtual 31, 3) := by decide +kernel
theorem dX1_body_169 : decode cX1_body 169 = .ok (.imul, 1) := by decide +kernel
theorem dX1_body_170 : decode cX1_body 170 = .ok (.ireturn, 1) := by decide +kernel
theorem dX1_body_171 : decode cX1_body 171 = .ok (.iload_n 3, 1) := by decide +kernel
theorem dX1_body_172 : decode cX1_body 172 = .ok (.ireturn, 1) := by decide +kernel
theorem dX1_body_173 : decode cX1_body 173 = .ok (.aload_n 0, 1) := by decide +kernel
theorem dX1_body_174 : decode cX1_body 174 = .ok (.bipush 20, 2) := by decide +kernel
theorem dX1_body_176 : decode cX1_body 176 = .ok (.aload_n 2, 1) := by decide +kernel
theorem dX1_body_177 : decode cX1_body 177 = .ok (.iload_n 3, 1) := by decide +kernel
theorem dX1_body_178 : decode cX1_body 178 = .ok (.iload 5, 2) := by decide +kernel
theorem dX1_body_180 : decode cX1_body 180 = .ok (.invokevirtual 31, 3) := by decide +kernel
theorem dX1_body_183 : decode cX1_body 183 = .ok (.aload_n 2, 1) := by decide +kernel
theorem dX1_body_184 : decode cX1_body 184 = .ok (.iload_n 3, 1) := by decide +kernel
theorem dX1_body_185 : decode cX1_body 185 = .ok (.invokevirtual 42, 3) := by decide +kernel
theorem dX1_body_188 : decode cX1_body 188 = .ok (.iadd, 1) := by decide +kernel
theorem dX1_body_189 : decode cX1_body 189 = .ok (.ireturn, 1) := by decide +kernel
theorem dX1_body_190 : decode cX1_body 190 = .ok (.aload_n 0, 1) := by decide +kernel
theorem dX1_body_191 : decode cX1_body 191 = .ok (.bipush 21, 2) := by decide +kernel
theorem dX1_body_193 : decode cX1_body 193 = .ok (.aload_n 2, 1) := by decide +kernel
theorem dX1_body_194 : decode cX1_body 194 = .ok (.iload_n 3, 1) := by decide +kernel
theorem dX1_body_195 : decode cX1_body 195 = .ok (.iload 5, 2) := by decide +kernel
theorem dX1_body_197 : decode cX1_body 197 = .ok (.invokevirtual 31, 3) := by decide +kernel
theorem dX1_body_200 : decode cX1_body 200 = .ok (.sipush 1000, 3) := by decide +kernel
theorem dX1_body_203 : decode cX1_body 203 = .ok (.isub, 1) := by decide +kernel
theorem dX1_body_204 : decode cX1_body 204 = .ok (.ireturn, 1) := by decide +kernel
theorem dX1_body_205 : decode cX1_body 205 = .ok (.aload_n 0, 1) := by decide +kernel
theorem dX1_body_206 : decode cX1_body 206 = .ok (.bipush 20, 2) := by decide +kernel
theorem dX1_body_208 : decode cX1_body 208 = .ok (.aload_n 2, 1) := by decide +kernel
theorem dX1_body_209 : decode cX1_body 209 = .ok (.iload_n 3, 1) := by decide +kernel
theorem dX1_body_210 : decode cX1_body 210 = .ok (.iload 5, 2) := by decide +kernel
theorem dX1_body_212 : decode cX1_body 212 = .ok (.invokevirtual 31, 3) := by decide +kernel
theorem dX1_body_215 : decode cX1_body 215 = .ok (.aload_n 0, 1) := by decide +kernel
theorem dX1_body_216 : decode cX1_body 216 = .ok (.getstatic 25, 3) := by decide +kernel
theorem dX1_body_219 : decode cX1_body 219 = .ok (.aload_n 2, 1) := by decide +kernel
theorem dX1_body_220 : decode cX1_body 220 = .ok (.iload_n 3, 1) := by decide +kernel
theorem dX1_body_221 : decode cX1_body 221 = .ok (.invokevirtual 19, 3) := by decide +kernel
theorem dX1_body_224 : decode cX1_body 224 = .ok (.iaload, 1) := by decide +kernel
theorem dX1_body_225 : decode cX1_body 225 = .ok (.aload_n 2, 1) := by decide +kernel
theorem dX1_body_226 : decode cX1_body 226 = .ok (.iload_n 3, 1) := by decide +kernel
theorem dX1_body_227 : decode cX1_body 227 = .ok (.iload 5, 2) := by decide +kernel
theorem dX1_body_229 : decode cX1_body 229 = .ok (.invokevirtual 31, 3) := by decide +kernel
theorem dX1_body_232 : decode cX1_body 232 = .ok (.isub, 1) := by decide +kernel
theorem dX1_body_233 : decode cX1_body 233 = .ok (.ireturn, 1) := by decide +kernel
theorem dX1_body_234 : decode cX1_body 234 = .ok (.iconst 2, 1) := by decide +kernel
theorem dX1_body_235 : decode cX1_body 235 = .ok (.aload_n 0, 1) := by decide +kernel
theorem dX1_body_236 : decode cX1_body 236 = .ok (.bipush 22, 2) := by decide +kernel
theorem dX1_body_238 : decode cX1_body 238 = .ok (.aload_n 2, 1) := by decide +kernel
theorem dX1_body_239 : decode cX1_body 239 = .ok (.iload_n 3, 1) := by decide +kernel
theorem dX1_body_240 : decode cX1_body 240 = .ok (.iload 5, 2) := by decide +kernel
theorem dX1_body_242 : decode cX1_body 242 = .ok (.invokevirtual 31, 3) := by decide +kernel
theorem dX1_body_245 : decode cX1_body 245 = .ok (.imul, 1) := by decide +kernel
theorem dX1_body_246 : decode cX1_body 246 = .ok (.ireturn, 1) := by decide +kernel
theorem dX1_body_247 : decode cX1_body 247 = .ok (.iconst 0, 1) := by decide +kernel
theorem dX1_body_248 : decode cX1_body 248 = .ok (.ireturn, 1) := by decide +kernel
theorem dX1_answerOf_0 : decode cX1_answerOf 0 = .ok (.aload_n 0, 1) := by decide +kernel
theorem dX1_answerOf_1 : decode cX1_answerOf 1 = .ok (.iconst 0, 1) := by decide +kernel
theorem dX1_answerOf_2 : decode cX1_answerOf 2 = .ok (.putfield 15, 3) := by decide +kernel
theorem dX1_answerOf_5 : decode cX1_answerOf 5 = .ok (.aload_n 1, 1) := by decide +kernel
theorem dX1_answerOf_6 : decode cX1_answerOf 6 = .ok (.iload_n 2, 1) := by decide +kernel
theorem dX1_answerOf_7 : decode cX1_answerOf 7 = .ok (.invokevirtual 19, 3) := by decide +kernel
theorem dX1_answerOf_10 : decode cX1_answerOf 10 = .ok (.istore 4, 2) := by decide +kernel
theorem dX1_answerOf_12 : decode cX1_answerOf 12 = .ok (.aload_n 0, 1) := by decide +kernel
theorem dX1_answerOf_13 : decode cX1_answerOf 13 = .ok (.iload_n 3, 1) := by decide +kernel
theorem dX1_answerOf_14 : decode cX1_answerOf 14 = .ok (.ifCond .ne 12, 3) := by decide +kernel
theorem dX1_answerOf_17 : decode cX1_answerOf 17 = .ok (.getstatic 25, 3) := by decide +kernel
theorem dX1_answerOf_20 : decode cX1_answerOf 20 = .ok (.iload 4, 2) := by decide +kernel
theorem dX1_answerOf_22 : decode cX1_answerOf 22 = .ok (.iaload, 1) := by decide +kernel
theorem dX1_answerOf_23 : decode cX1_answerOf 23 = .ok (.goto 9, 3) := by decide +kernel
theorem dX1_answerOf_26 : decode cX1_answerOf 26 = .ok (.getstatic 28, 3) := by decide +kernel
theorem dX1_answerOf_29 : decode cX1_answerOf 29 = .ok (.iload 4, 2) := by decide +kernel
theorem dX1_answerOf_31 : decode cX1_answerOf 31 = .ok (.iaload, 1) := by decide +kernel
theorem dX1_answerOf_32 : decode cX1_answerOf 32 = .ok (.aload_n 1, 1) := by decide +kernel
theorem dX1_answerOf_33 : decode cX1_answerOf 33 = .ok (.iload_n 2, 1) := by decide +kernel
theorem dX1_answerOf_34 : decode cX1_answerOf 34 = .ok (.iconst 0, 1) := by decide +kernel
theorem dX1_answerOf_35 : decode cX1_answerOf 35 = .ok (.invokevirtual 31, 3) := by decide +kernel
theorem dX1_answerOf_38 : decode cX1_answerOf 38 = .ok (.ireturn, 1) := by decide +kernel
theorem dX5_ask_0 : decode cX5_ask 0 = .ok (.aload_n 0, 1) := by decide +kernel
theorem dX5_ask_1 : decode cX5_ask 1 = .ok (.iload_n 1, 1) := by decide +kernel
theorem dX5_ask_2 : decode cX5_ask 2 = .ok (.invokevirtual 155, 3) := by decide +kernel
theorem dX5_ask_5 : decode cX5_ask 5 = .ok (.ifCond .ne 12, 3) := by decide +kernel
theorem dX5_ask_8 : decode cX5_ask 8 = .ok (.iload_n 2, 1) := by decide +kernel
theorem dX5_ask_9 : decode cX5_ask 9 = .ok (.ifCond .lt 8, 3) := by decide +kernel
theorem dX5_ask_12 : decode cX5_ask 12 = .ok (.iload_n 2, 1) := by decide +kernel
theorem dX5_ask_13 : decode cX5_ask 13 = .ok (.iconst 1, 1) := by decide +kernel
theorem dX5_ask_14 : decode cX5_ask 14 = .ok (.if_icmp .le 6, 3) := by decide +kernel
theorem dX5_ask_17 : decode cX5_ask 17 = .ok (.ldc 59, 2) := by decide +kernel
theorem dX5_ask_19 : decode cX5_ask 19 = .ok (.ireturn, 1) := by decide +kernel
theorem dX5_ask_20 : decode cX5_ask 20 = .ok (.aload_n 0, 1) := by decide +kernel
theorem dX5_ask_21 : decode cX5_ask 21 = .ok (.getfield 47, 3) := by decide +kernel
theorem dX5_ask_24 : decode cX5_ask 24 = .ok (.aload_n 0, 1) := by decide +kernel
theorem dX5_ask_25 : decode cX5_ask 25 = .ok (.getfield 26, 3) := by decide +kernel
theorem dX5_ask_28 : decode cX5_ask 28 = .ok (.iload_n 1, 1) := by decide +kernel
theorem dX5_ask_29 : decode cX5_ask 29 = .ok (.iload_n 2, 1) := by decide +kernel
theorem dX5_ask_30 : decode cX5_ask 30 = .ok (.invokevirtual 236, 3) := by decide +kernel
theorem dX5_ask_33 : decode cX5_ask 33 = .ok (.ireturn, 1) := by decide +kernel
section K1
variable {G : GG} {z : Nat} {σ : AH} {lf fd : Int32} {rl rn : Nat → Int32} {ri : Nat → Nat → Int32} {tp rd : Nat → Int32} {dd d df : TS} {nx kp : Nat} {da di : Nat → TS} {tr : Nat} {bo ne : Nat → Int32}
theorem c_begins (X : XR σ lf fd rl rn ri tp rd dd d df nx kp da di tr bo ne) (b : Int32) (ht : tr < 16) : Ct G yX1_begins cX1_begins 2 none 1 0 0 z σ [.ref 168, .int b] none z (akH σ (upd bo tr b) (tr + 1)) := by
  refine Ct.ofJ RX1 rfl [some (.ref 168), some (.int b)] rfl (by decide) Nat.le.refl ?_
  refine j_aload_n dX1_begins_0 rfl rfl ?_
  refine j_getf dX1_begins_1 1 1 rfl (Nat.le_of_ble_eq_true rfl) fl_X1_15 in_1 (by first | exact X.1 | exact X.2.1 | exact X.2.2.2.1 | exact X.2.2.2.2.1 | exact X.2.2.2.2.2.2.1.o | exact X.2.2.2.2.2.2.1.c | exact X.2.2.2.2.2.2.1.i | exact X.2.2.2.2.2.2.1.p | exact X.2.2.2.2.2.2.1.d | exact X.2.2.2.2.2.2.2.1.o | exact X.2.2.2.2.2.2.2.2.1 | exact X.2.2.2.2.2.2.2.2.2.1 | exact X.2.2.2.2.2.2.2.2.2.2.2.1 | exact X.2.2.2.2.2.2.2.2.2.2.2.2.2.1 | exact X.2.2.2.2.2.2.2.2.2.2.2.2.2.2.1 | exact X.2.2.2.2.2.2.2.2.2.2.2.2.2.2.2) rfl ?_
  refine j_bipush (nI 16) dX1_begins_4 rfl ?_
  refine j_icmp_geN 29 dX1_begins_6 (by decide) (by omega) (by omega) (fun b6 => by exfalso; omega) (fun b6 => ?_)
  refine j_aload_n dX1_begins_9 rfl rfl ?_
  refine j_getf dX1_begins_10 1 0 rfl (Nat.le_of_ble_eq_true rfl) fl_X1_9 in_1 (by first | exact X.1 | exact X.2.1 | exact X.2.2.2.1 | exact X.2.2.2.2.1 | exact X.2.2.2.2.2.2.1.o | exact X.2.2.2.2.2.2.1.c | exact X.2.2.2.2.2.2.1.i | exact X.2.2.2.2.2.2.1.p | exact X.2.2.2.2.2.2.1.d | exact X.2.2.2.2.2.2.2.1.o | exact X.2.2.2.2.2.2.2.2.1 | exact X.2.2.2.2.2.2.2.2.2.1 | exact X.2.2.2.2.2.2.2.2.2.2.2.1 | exact X.2.2.2.2.2.2.2.2.2.2.2.2.2.1 | exact X.2.2.2.2.2.2.2.2.2.2.2.2.2.2.1 | exact X.2.2.2.2.2.2.2.2.2.2.2.2.2.2.2) rfl ?_
  refine j_aload_n dX1_begins_13 rfl rfl ?_
  refine j_getf dX1_begins_14 1 1 rfl (Nat.le_of_ble_eq_true rfl) fl_X1_15 in_1 (by first | exact X.1 | exact X.2.1 | exact X.2.2.2.1 | exact X.2.2.2.2.1 | exact X.2.2.2.2.2.2.1.o | exact X.2.2.2.2.2.2.1.c | exact X.2.2.2.2.2.2.1.i | exact X.2.2.2.2.2.2.1.p | exact X.2.2.2.2.2.2.1.d | exact X.2.2.2.2.2.2.2.1.o | exact X.2.2.2.2.2.2.2.2.1 | exact X.2.2.2.2.2.2.2.2.2.1 | exact X.2.2.2.2.2.2.2.2.2.2.2.1 | exact X.2.2.2.2.2.2.2.2.2.2.2.2.2.1 | exact X.2.2.2.2.2.2.2.2.2.2.2.2.2.2.1 | exact X.2.2.2.2.2.2.2.2.2.2.2.2.2.2.2) rfl ?_
  refine j_iload_n dX1_begins_17 rfl rfl ?_
  refine j_iast dX1_begins_18 (by first | exact X.1 | exact X.2.1 | exact X.2.2.2.1 | exact X.2.2.2.2.1 | exact X.2.2.2.2.2.2.1.o | exact X.2.2.2.2.2.2.1.c | exact X.2.2.2.2.2.2.1.i | exact X.2.2.2.2.2.2.1.p | exact X.2.2.2.2.2.2.1.d | exact X.2.2.2.2.2.2.2.1.o | exact X.2.2.2.2.2.2.2.2.1 | exact X.2.2.2.2.2.2.2.2.2.1 | exact X.2.2.2.2.2.2.2.2.2.2.2.1 | exact X.2.2.2.2.2.2.2.2.2.2.2.2.2.1 | exact X.2.2.2.2.2.2.2.2.2.2.2.2.2.2.1 | exact X.2.2.2.2.2.2.2.2.2.2.2.2.2.2.2) rfl (by omega) (by decide) _ rfl ?_
  have X := X.bods (upd bo tr b)
  refine j_aload_n dX1_begins_19 rfl rfl ?_
  refine j_dup dX1_begins_20 rfl ?_
  refine j_getf dX1_begins_21 1 1 rfl (Nat.le_of_ble_eq_true rfl) fl_X1_15 in_1 (by first | exact X.1 | exact X.2.1 | exact X.2.2.2.1 | exact X.2.2.2.2.1 | exact X.2.2.2.2.2.2.1.o | exact X.2.2.2.2.2.2.1.c | exact X.2.2.2.2.2.2.1.i | exact X.2.2.2.2.2.2.1.p | exact X.2.2.2.2.2.2.1.d | exact X.2.2.2.2.2.2.2.1.o | exact X.2.2.2.2.2.2.2.2.1 | exact X.2.2.2.2.2.2.2.2.2.1 | exact X.2.2.2.2.2.2.2.2.2.2.2.1 | exact X.2.2.2.2.2.2.2.2.2.2.2.2.2.1 | exact X.2.2.2.2.2.2.2.2.2.2.2.2.2.2.1 | exact X.2.2.2.2.2.2.2.2.2.2.2.2.2.2.2) rfl ?_
  refine j_iconst (nI 1) dX1_begins_24 rfl ?_
  first | refine j_iaddN dX1_begins_25 ?_ | refine j_iadd dX1_begins_25 ?_
  refine j_putf dX1_begins_26 1 1 rfl (Nat.le_of_ble_eq_true rfl) fl_X1_15 in_1 tyX1 tyX1_ok nmX1 rfl rfl (by first | exact X.1 | exact X.2.1 | exact X.2.2.2.1 | exact X.2.2.2.2.1 | exact X.2.2.2.2.2.2.1.o | exact X.2.2.2.2.2.2.1.c | exact X.2.2.2.2.2.2.1.i | exact X.2.2.2.2.2.2.1.p | exact X.2.2.2.2.2.2.1.d | exact X.2.2.2.2.2.2.2.1.o | exact X.2.2.2.2.2.2.2.2.1 | exact X.2.2.2.2.2.2.2.2.2.1 | exact X.2.2.2.2.2.2.2.2.2.2.2.1 | exact X.2.2.2.2.2.2.2.2.2.2.2.2.2.1 | exact X.2.2.2.2.2.2.2.2.2.2.2.2.2.2.1 | exact X.2.2.2.2.2.2.2.2.2.2.2.2.2.2.2) (Nat.le_of_ble_eq_true rfl) _ rfl ?_
  exact j_vret rfl dX1_begins_29 rfl (Nat.le_of_ble_eq_true rfl) (Nat.le_of_ble_eq_true rfl)
theorem c_b10 (X : XR σ lf fd rl rn ri tp rd dd d df nx kp da di tr bo ne) {p dp : Nat} (hN : sN d ≤ 7) (hp : p < sN d) (hd : dp + 0 < 8) (ht : tr + 1 ≤ 16) : Ct G yX1_body cX1_body 6 (some .int) 2 0 0 z σ [.ref 168, .int (nI 10), .ref 25, .int (nI p), .int (nI dp)] (some (.int (sC d p))) z (akH σ (apB bo tr [10]) (tr + 1)) := by
  refine Ct.ofJ RX1 rfl [some (.ref 168), some (.int (nI 10)), some (.ref 25), some (.int (nI p)), some (.int (nI dp)), none] rfl (by decide) (by simp [Value.category]) ?_
  refine j_iload dX1_body_0 rfl ?_
  refine j_bipush (nI 8) dX1_body_2 rfl ?_
  refine j_icmp_ltN 9 dX1_body_4 (by decide) (by omega) (by omega) (fun b4 => ?_) (fun b4 => by exfalso; omega)
  refine j_aload_n dX1_body_9 rfl rfl ?_
  refine j_iload_n dX1_body_10 rfl rfl ?_
  refine j_callV (c_begins X (nI 10) (by omega)) dX1_body_11 rfl mv_X1_35 (by first | exact X.1 | exact X.2.1 | exact X.2.2.2.1 | exact X.2.2.2.2.1 | exact X.2.2.2.2.2.2.1.o | exact X.2.2.2.2.2.2.1.c | exact X.2.2.2.2.2.2.1.i | exact X.2.2.2.2.2.2.1.p | exact X.2.2.2.2.2.2.1.d | exact X.2.2.2.2.2.2.2.1.o | exact X.2.2.2.2.2.2.2.2.1 | exact X.2.2.2.2.2.2.2.2.2.1 | exact X.2.2.2.2.2.2.2.2.2.2.2.1 | exact X.2.2.2.2.2.2.2.2.2.2.2.2.2.1 | exact X.2.2.2.2.2.2.2.2.2.2.2.2.2.2.1 | exact X.2.2.2.2.2.2.2.2.2.2.2.2.2.2.2) rfl ⟨(Nat.le_of_ble_eq_true rfl), (Nat.le_of_ble_eq_true rfl)⟩ ⟨(Nat.le_of_ble_eq_true rfl), (Nat.le_of_ble_eq_true rfl)⟩ (Nat.le_of_ble_eq_true rfl) ?_
  have X := (X.bods (upd bo tr (nI 10))).asks (tr + 1)
  refine j_iload dX1_body_14 rfl ?_
  refine j_iconst (nI 1) dX1_body_16 rfl ?_
  first | refine j_iaddN dX1_body_17 ?_ | refine j_iadd dX1_body_17 ?_
  refine j_istore dX1_body_18 (Nat.le_of_ble_eq_true rfl) rfl ?_
  refine j_iload_n dX1_body_20 rfl rfl ?_
  refine j_tabK 10 96 dX1_body_21 rfl (by decide) (by decide) (by decide) rfl (by decide) ?_
  refine j_aload_n dX1_body_96 rfl rfl ?_
  refine j_getf dX1_body_97 4 0 rfl (Nat.le_of_ble_eq_true rfl) fl_X1_39 in_4 (by first | exact X.1 | exact X.2.1 | exact X.2.2.2.1 | exact X.2.2.2.2.1 | exact X.2.2.2.2.2.2.1.o | exact X.2.2.2.2.2.2.1.c | exact X.2.2.2.2.2.2.1.i | exact X.2.2.2.2.2.2.1.p | exact X.2.2.2.2.2.2.1.d | exact X.2.2.2.2.2.2.2.1.o | exact X.2.2.2.2.2.2.2.2.1 | exact X.2.2.2.2.2.2.2.2.2.1 | exact X.2.2.2.2.2.2.2.2.2.2.2.1 | exact X.2.2.2.2.2.2.2.2.2.2.2.2.2.1 | exact X.2.2.2.2.2.2.2.2.2.2.2.2.2.2.1 | exact X.2.2.2.2.2.2.2.2.2.2.2.2.2.2.2) rfl ?_
  refine j_iload_n dX1_body_100 rfl rfl ?_
  refine j_iald dX1_body_101 (by first | exact X.1 | exact X.2.1 | exact X.2.2.2.1 | exact X.2.2.2.2.1 | exact X.2.2.2.2.2.2.1.o | exact X.2.2.2.2.2.2.1.c | exact X.2.2.2.2.2.2.1.i | exact X.2.2.2.2.2.2.1.p | exact X.2.2.2.2.2.2.1.d | exact X.2.2.2.2.2.2.2.1.o | exact X.2.2.2.2.2.2.2.2.1 | exact X.2.2.2.2.2.2.2.2.2.1 | exact X.2.2.2.2.2.2.2.2.2.2.2.1 | exact X.2.2.2.2.2.2.2.2.2.2.2.2.2.1 | exact X.2.2.2.2.2.2.2.2.2.2.2.2.2.2.1 | exact X.2.2.2.2.2.2.2.2.2.2.2.2.2.2.2) rfl (by omega) (by decide) ?_
  exact j_iret rfl dX1_body_102 rfl rfl (Nat.le_of_ble_eq_true rfl) (Nat.le_of_ble_eq_true rfl)
theorem c_b20 (X : XR σ lf fd rl rn ri tp rd dd d df nx kp da di tr bo ne) {p dp : Nat} (hN : sN d ≤ 7) (hp : p < sN d) (hd : dp + 0 < 8) (ht : tr + 1 ≤ 16) : Ct G yX1_body cX1_body 6 (some .int) 2 0 0 z σ [.ref 168, .int (nI 20), .ref 25, .int (nI p), .int (nI dp)] (some (.int (nI p))) z (akH σ (apB bo tr [20]) (tr + 1)) := by
  refine Ct.ofJ RX1 rfl [some (.ref 168), some (.int (nI 20)), some (.ref 25), some (.int (nI p)), some (.int (nI dp)), none] rfl (by decide) (by simp [Value.category]) ?_
  refine j_iload dX1_body_0 rfl ?_
  refine j_bipush (nI 8) dX1_body_2 rfl ?_
  refine j_icmp_ltN 9 dX1_body_4 (by decide) (by omega) (by omega) (fun b4 => ?_) (fun b4 => by exfalso; omega)
  refine j_aload_n dX1_body_9 rfl rfl ?_
  refine j_iload_n dX1_body_10 rfl rfl ?_
  refine j_callV (c_begins X (nI 20) (by omega)) dX1_body_11 rfl mv_X1_35 (by first | exact X.1 | exact X.2.1 | exact X.2.2.2.1 | exact X.2.2.2.2.1 | exact X.2.2.2.2.2.2.1.o | exact X.2.2.2.2.2.2.1.c | exact X.2.2.2.2.2.2.1.i | exact X.2.2.2.2.2.2.1.p | exact X.2.2.2.2.2.2.1.d | exact X.2.2.2.2.2.2.2.1.o | exact X.2.2.2.2.2.2.2.2.1 | exact X.2.2.2.2.2.2.2.2.2.1 | exact X.2.2.2.2.2.2.2.2.2.2.2.1 | exact X.2.2.2.2.2.2.2.2.2.2.2.2.2.1 | exact X.2.2.2.2.2.2.2.2.2.2.2.2.2.2.1 | exact X.2.2.2.2.2.2.2.2.2.2.2.2.2.2.2) rfl ⟨(Nat.le_of_ble_eq_true rfl), (Nat.le_of_ble_eq_true rfl)⟩ ⟨(Nat.le_of_ble_eq_true rfl), (Nat.le_of_ble_eq_true rfl)⟩ (Nat.le_of_ble_eq_true rfl) ?_
  have X := (X.bods (upd bo tr (nI 20))).asks (tr + 1)
  refine j_iload dX1_body_14 rfl ?_
  refine j_iconst (nI 1) dX1_body_16 rfl ?_
  first | refine j_iaddN dX1_body_17 ?_ | refine j_iadd dX1_body_17 ?_
  refine j_istore dX1_body_18 (Nat.le_of_ble_eq_true rfl) rfl ?_
  refine j_iload_n dX1_body_20 rfl rfl ?_
  refine j_tabK 20 171 dX1_body_21 rfl (by decide) (by decide) (by decide) rfl (by decide) ?_
  refine j_iload_n dX1_body_171 rfl rfl ?_
  exact j_iret rfl dX1_body_172 rfl rfl (Nat.le_of_ble_eq_true rfl) (Nat.le_of_ble_eq_true rfl)
theorem c_b21 (X : XR σ lf fd rl rn ri tp rd dd d df nx kp da di tr bo ne) {p dp : Nat} (hN : sN d ≤ 7) (hp : p < sN d) (hd : dp + 1 < 8) (ht : tr + 2 ≤ 16) : Ct G yX1_body cX1_body 6 (some .int) 3 0 0 z σ [.ref 168, .int (nI 21), .ref 25, .int (nI p), .int (nI dp)] (some (.int (nI p + dsum (sD d) (sN d) p))) z (akH σ (apB bo tr [21, 20]) (tr + 2)) := by
  refine Ct.ofJ RX1 rfl [some (.ref 168), some (.int (nI 21)), some (.ref 25), some (.int (nI p)), some (.int (nI dp)), none] rfl (by decide) (by simp [Value.category]) ?_
  refine j_iload dX1_body_0 rfl ?_
  refine j_bipush (nI 8) dX1_body_2 rfl ?_
  refine j_icmp_ltN 9 dX1_body_4 (by decide) (by omega) (by omega) (fun b4 => ?_) (fun b4 => by exfalso; omega)
  have X0 := X
  refine j_aload_n dX1_body_9 rfl rfl ?_
  refine j_iload_n dX1_body_10 rfl rfl ?_
  refine j_callV (c_begins X (nI 21) (by omega)) dX1_body_11 rfl mv_X1_35 (by first | exact X.1 | exact X.2.1 | exact X.2.2.2.1 | exact X.2.2.2.2.1 | exact X.2.2.2.2.2.2.1.o | exact X.2.2.2.2.2.2.1.c | exact X.2.2.2.2.2.2.1.i | exact X.2.2.2.2.2.2.1.p | exact X.2.2.2.2.2.2.1.d | exact X.2.2.2.2.2.2.2.1.o | exact X.2.2.2.2.2.2.2.2.1 | exact X.2.2.2.2.2.2.2.2.2.1 | exact X.2.2.2.2.2.2.2.2.2.2.2.1 | exact X.2.2.2.2.2.2.2.2.2.2.2.2.2.1 | exact X.2.2.2.2.2.2.2.2.2.2.2.2.2.2.1 | exact X.2.2.2.2.2.2.2.2.2.2.2.2.2.2.2) rfl ⟨(Nat.le_of_ble_eq_true rfl), (Nat.le_of_ble_eq_true rfl)⟩ ⟨(Nat.le_of_ble_eq_true rfl), (Nat.le_of_ble_eq_true rfl)⟩ (Nat.le_of_ble_eq_true rfl) ?_
  have X := (X.bods (upd bo tr (nI 21))).asks (tr + 1)
  refine j_iload dX1_body_14 rfl ?_
  refine j_iconst (nI 1) dX1_body_16 rfl ?_
  first | refine j_iaddN dX1_body_17 ?_ | refine j_iadd dX1_body_17 ?_
  refine j_istore dX1_body_18 (Nat.le_of_ble_eq_true rfl) rfl ?_
  refine j_iload_n dX1_body_20 rfl rfl ?_
  refine j_tabK 21 173 dX1_body_21 rfl (by decide) (by decide) (by decide) rfl (by decide) ?_
  refine j_aload_n dX1_body_173 rfl rfl ?_
  refine j_bipush (nI 20) dX1_body_174 rfl ?_
  refine j_aload_n dX1_body_176 rfl rfl ?_
  refine j_iload_n dX1_body_177 rfl rfl ?_
  refine j_iload dX1_body_178 rfl ?_
  refine j_callV (c_b20 X hN hp (by omega) (by omega)) dX1_body_180 rfl mv_X1_31 (by first | exact X.1 | exact X.2.1 | exact X.2.2.2.1 | exact X.2.2.2.2.1 | exact X.2.2.2.2.2.2.1.o | exact X.2.2.2.2.2.2.1.c | exact X.2.2.2.2.2.2.1.i | exact X.2.2.2.2.2.2.1.p | exact X.2.2.2.2.2.2.1.d | exact X.2.2.2.2.2.2.2.1.o | exact X.2.2.2.2.2.2.2.2.1 | exact X.2.2.2.2.2.2.2.2.2.1 | exact X.2.2.2.2.2.2.2.2.2.2.2.1 | exact X.2.2.2.2.2.2.2.2.2.2.2.2.2.1 | exact X.2.2.2.2.2.2.2.2.2.2.2.2.2.2.1 | exact X.2.2.2.2.2.2.2.2.2.2.2.2.2.2.2) rfl ⟨(Nat.le_of_ble_eq_true rfl), (Nat.le_of_ble_eq_true rfl)⟩ ⟨(Nat.le_of_ble_eq_true rfl), (Nat.le_of_ble_eq_true rfl)⟩ (Nat.le_of_ble_eq_true rfl) ?_
  rw [show akH (akH σ (upd bo tr (nI 21)) (tr + 1)) (apB (upd bo tr (nI 21)) (tr + 1) [20]) (tr + 1 + 1) = akH σ (apB (upd bo tr (nI 21)) (tr + 1) [20]) (tr + 1 + 1) from akH2]
  have X := (X0.bods (apB bo tr [21, 20])).asks (tr + 2)
  refine j_aload_n dX1_body_183 rfl rfl ?_
  refine j_iload_n dX1_body_184 rfl rfl ?_
  refine j_callV (c_owedByS X.2.2.2.2.2.2.1 hN (by omega)) dX1_body_185 rfl mv_X1_42 (by first | exact X.1 | exact X.2.1 | exact X.2.2.2.1 | exact X.2.2.2.2.1 | exact X.2.2.2.2.2.2.1.o | exact X.2.2.2.2.2.2.1.c | exact X.2.2.2.2.2.2.1.i | exact X.2.2.2.2.2.2.1.p | exact X.2.2.2.2.2.2.1.d | exact X.2.2.2.2.2.2.2.1.o | exact X.2.2.2.2.2.2.2.2.1 | exact X.2.2.2.2.2.2.2.2.2.1 | exact X.2.2.2.2.2.2.2.2.2.2.2.1 | exact X.2.2.2.2.2.2.2.2.2.2.2.2.2.1 | exact X.2.2.2.2.2.2.2.2.2.2.2.2.2.2.1 | exact X.2.2.2.2.2.2.2.2.2.2.2.2.2.2.2) rfl ⟨(Nat.le_of_ble_eq_true rfl), (Nat.le_of_ble_eq_true rfl)⟩ ⟨(Nat.le_of_ble_eq_true rfl), (Nat.le_of_ble_eq_true rfl)⟩ (Nat.le_of_ble_eq_true rfl) ?_
  first | refine j_iaddN dX1_body_188 ?_ | refine j_iadd dX1_body_188 ?_
  exact j_iret rfl dX1_body_189 rfl rfl (Nat.le_of_ble_eq_true rfl) (Nat.le_of_ble_eq_true rfl)
theorem c_b22 (X : XR σ lf fd rl rn ri tp rd dd d df nx kp da di tr bo ne) {p dp : Nat} (hN : sN d ≤ 7) (hp : p < sN d) (hd : dp + 2 < 8) (ht : tr + 3 ≤ 16) : Ct G yX1_body cX1_body 6 (some .int) 4 0 0 z σ [.ref 168, .int (nI 22), .ref 25, .int (nI p), .int (nI dp)] (some (.int (nI p + dsum (sD d) (sN d) p - nI 1000))) z (akH σ (apB bo tr [22, 21, 20]) (tr + 3)) := by
  refine Ct.ofJ RX1 rfl [some (.ref 168), some (.int (nI 22)), some (.ref 25), some (.int (nI p)), some (.int (nI dp)), none] rfl (by decide) (by simp [Value.category]) ?_
  refine j_iload dX1_body_0 rfl ?_
  refine j_bipush (nI 8) dX1_body_2 rfl ?_
  refine j_icmp_ltN 9 dX1_body_4 (by decide) (by omega) (by omega) (fun b4 => ?_) (fun b4 => by exfalso; omega)
  refine j_aload_n dX1_body_9 rfl rfl ?_
  refine j_iload_n dX1_body_10 rfl rfl ?_
  refine j_callV (c_begins X (nI 22) (by omega)) dX1_body_11 rfl mv_X1_35 (by first | exact X.1 | exact X.2.1 | exact X.2.2.2.1 | exact X.2.2.2.2.1 | exact X.2.2.2.2.2.2.1.o | exact X.2.2.2.2.2.2.1.c | exact X.2.2.2.2.2.2.1.i | exact X.2.2.2.2.2.2.1.p | exact X.2.2.2.2.2.2.1.d | exact X.2.2.2.2.2.2.2.1.o | exact X.2.2.2.2.2.2.2.2.1 | exact X.2.2.2.2.2.2.2.2.2.1 | exact X.2.2.2.2.2.2.2.2.2.2.2.1 | exact X.2.2.2.2.2.2.2.2.2.2.2.2.2.1 | exact X.2.2.2.2.2.2.2.2.2.2.2.2.2.2.1 | exact X.2.2.2.2.2.2.2.2.2.2.2.2.2.2.2) rfl ⟨(Nat.le_of_ble_eq_true rfl), (Nat.le_of_ble_eq_true rfl)⟩ ⟨(Nat.le_of_ble_eq_true rfl), (Nat.le_of_ble_eq_true rfl)⟩ (Nat.le_of_ble_eq_true rfl) ?_
  have X := (X.bods (upd bo tr (nI 22))).asks (tr + 1)
  refine j_iload dX1_body_14 rfl ?_
  refine j_iconst (nI 1) dX1_body_16 rfl ?_
  first | refine j_iaddN dX1_body_17 ?_ | refine j_iadd dX1_body_17 ?_
  refine j_istore dX1_body_18 (Nat.le_of_ble_eq_true rfl) rfl ?_
  refine j_iload_n dX1_body_20 rfl rfl ?_
  refine j_tabK 22 190 dX1_body_21 rfl (by decide) (by decide) (by decide) rfl (by decide) ?_
  refine j_aload_n dX1_body_190 rfl rfl ?_
  refine j_bipush (nI 21) dX1_body_191 rfl ?_
  refine j_aload_n dX1_body_193 rfl rfl ?_
  refine j_iload_n dX1_body_194 rfl rfl ?_
  refine j_iload dX1_body_195 rfl ?_
  refine j_callV (c_b21 X hN hp (by omega) (by omega)) dX1_body_197 rfl mv_X1_31 (by first | exact X.1 | exact X.2.1 | exact X.2.2.2.1 | exact X.2.2.2.2.1 | exact X.2.2.2.2.2.2.1.o | exact X.2.2.2.2.2.2.1.c | exact X.2.2.2.2.2.2.1.i | exact X.2.2.2.2.2.2.1.p | exact X.2.2.2.2.2.2.1.d | exact X.2.2.2.2.2.2.2.1.o | exact X.2.2.2.2.2.2.2.2.1 | exact X.2.2.2.2.2.2.2.2.2.1 | exact X.2.2.2.2.2.2.2.2.2.2.2.1 | exact X.2.2.2.2.2.2.2.2.2.2.2.2.2.1 | exact X.2.2.2.2.2.2.2.2.2.2.2.2.2.2.1 | exact X.2.2.2.2.2.2.2.2.2.2.2.2.2.2.2) rfl ⟨(Nat.le_of_ble_eq_true rfl), (Nat.le_of_ble_eq_true rfl)⟩ ⟨(Nat.le_of_ble_eq_true rfl), (Nat.le_of_ble_eq_true rfl)⟩ (Nat.le_of_ble_eq_true rfl) ?_
  rw [show akH (akH σ (upd bo tr (nI 22)) (tr + 1)) (apB (upd bo tr (nI 22)) (tr + 1) [21, 20]) (tr + 1 + 2) = akH σ (apB (upd bo tr (nI 22)) (tr + 1) [21, 20]) (tr + 1 + 2) from akH2]
  refine j_sipush (nI 1000) dX1_body_200 rfl ?_
  refine j_isub dX1_body_203 ?_
  exact j_iret rfl dX1_body_204 rfl rfl (Nat.le_of_ble_eq_true rfl) (Nat.le_of_ble_eq_true rfl)
theorem c_b24 (X : XR σ lf fd rl rn ri tp rd dd d df nx kp da di tr bo ne) {p dp : Nat} (hN : sN d ≤ 7) (hp : p < sN d) (hd : dp + 3 < 8) (ht : tr + 4 ≤ 16) : Ct G yX1_body cX1_body 6 (some .int) 5 0 0 z σ [.ref 168, .int (nI 24), .ref 25, .int (nI p), .int (nI dp)] (some (.int (nI 2 * (nI p + dsum (sD d) (sN d) p - nI 1000)))) z (akH σ (apB bo tr [24, 22, 21, 20]) (tr + 4)) := by
  refine Ct.ofJ RX1 rfl [some (.ref 168), some (.int (nI 24)), some (.ref 25), some (.int (nI p)), some (.int (nI dp)), none] rfl (by decide) (by simp [Value.category]) ?_
  refine j_iload dX1_body_0 rfl ?_
  refine j_bipush (nI 8) dX1_body_2 rfl ?_
  refine j_icmp_ltN 9 dX1_body_4 (by decide) (by omega) (by omega) (fun b4 => ?_) (fun b4 => by exfalso; omega)
  refine j_aload_n dX1_body_9 rfl rfl ?_
  refine j_iload_n dX1_body_10 rfl rfl ?_
  refine j_callV (c_begins X (nI 24) (by omega)) dX1_body_11 rfl mv_X1_35 (by first | exact X.1 | exact X.2.1 | exact X.2.2.2.1 | exact X.2.2.2.2.1 | exact X.2.2.2.2.2.2.1.o | exact X.2.2.2.2.2.2.1.c | exact X.2.2.2.2.2.2.1.i | exact X.2.2.2.2.2.2.1.p | exact X.2.2.2.2.2.2.1.d | exact X.2.2.2.2.2.2.2.1.o | exact X.2.2.2.2.2.2.2.2.1 | exact X.2.2.2.2.2.2.2.2.2.1 | exact X.2.2.2.2.2.2.2.2.2.2.2.1 | exact X.2.2.2.2.2.2.2.2.2.2.2.2.2.1 | exact X.2.2.2.2.2.2.2.2.2.2.2.2.2.2.1 | exact X.2.2.2.2.2.2.2.2.2.2.2.2.2.2.2) rfl ⟨(Nat.le_of_ble_eq_true rfl), (Nat.le_of_ble_eq_true rfl)⟩ ⟨(Nat.le_of_ble_eq_true rfl), (Nat.le_of_ble_eq_true rfl)⟩ (Nat.le_of_ble_eq_true rfl) ?_
  have X := (X.bods (upd bo tr (nI 24))).asks (tr + 1)
  refine j_iload dX1_body_14 rfl ?_
  refine j_iconst (nI 1) dX1_body_16 rfl ?_
  first | refine j_iaddN dX1_body_17 ?_ | refine j_iadd dX1_body_17 ?_
  refine j_istore dX1_body_18 (Nat.le_of_ble_eq_true rfl) rfl ?_
  refine j_iload_n dX1_body_20 rfl rfl ?_
  refine j_tabK 24 234 dX1_body_21 rfl (by decide) (by decide) (by decide) rfl (by decide) ?_
  refine j_iconst (nI 2) dX1_body_234 rfl ?_
  refine j_aload_n dX1_body_235 rfl rfl ?_
  refine j_bipush (nI 22) dX1_body_236 rfl ?_
  refine j_aload_n dX1_body_238 rfl rfl ?_
  refine j_iload_n dX1_body_239 rfl rfl ?_
  refine j_iload dX1_body_240 rfl ?_
  refine j_callV (c_b22 X hN hp (by omega) (by omega)) dX1_body_242 rfl mv_X1_31 (by first | exact X.1 | exact X.2.1 | exact X.2.2.2.1 | exact X.2.2.2.2.1 | exact X.2.2.2.2.2.2.1.o | exact X.2.2.2.2.2.2.1.c | exact X.2.2.2.2.2.2.1.i | exact X.2.2.2.2.2.2.1.p | exact X.2.2.2.2.2.2.1.d | exact X.2.2.2.2.2.2.2.1.o | exact X.2.2.2.2.2.2.2.2.1 | exact X.2.2.2.2.2.2.2.2.2.1 | exact X.2.2.2.2.2.2.2.2.2.2.2.1 | exact X.2.2.2.2.2.2.2.2.2.2.2.2.2.1 | exact X.2.2.2.2.2.2.2.2.2.2.2.2.2.2.1 | exact X.2.2.2.2.2.2.2.2.2.2.2.2.2.2.2) rfl ⟨(Nat.le_of_ble_eq_true rfl), (Nat.le_of_ble_eq_true rfl)⟩ ⟨(Nat.le_of_ble_eq_true rfl), (Nat.le_of_ble_eq_true rfl)⟩ (Nat.le_of_ble_eq_true rfl) ?_
  rw [show akH (akH σ (upd bo tr (nI 24)) (tr + 1)) (apB (upd bo tr (nI 24)) (tr + 1) [22, 21, 20]) (tr + 1 + 3) = akH σ (apB (upd bo tr (nI 24)) (tr + 1) [22, 21, 20]) (tr + 1 + 3) from akH2]
  refine j_imul dX1_body_245 ?_
  exact j_iret rfl dX1_body_246 rfl rfl (Nat.le_of_ble_eq_true rfl) (Nat.le_of_ble_eq_true rfl)
theorem c_b13 (X : XR σ lf fd rl rn ri tp rd dd d df nx kp da di tr bo ne) {p dp : Nat} (hN : sN d ≤ 7) (hp : p < sN d) (hd : dp + 1 < 8) (ht : tr + 2 ≤ 16) : Ct G yX1_body cX1_body 6 (some .int) 3 0 0 z σ [.ref 168, .int (nI 13), .ref 25, .int (nI p), .int (nI dp)] (some (.int (sC d p - nI 100))) z (akH σ (apB bo tr [13, 10]) (tr + 2)) := by
  refine Ct.ofJ RX1 rfl [some (.ref 168), some (.int (nI 13)), some (.ref 25), some (.int (nI p)), some (.int (nI dp)), none] rfl (by decide) (by simp [Value.category]) ?_
  refine j_iload dX1_body_0 rfl ?_
  refine j_bipush (nI 8) dX1_body_2 rfl ?_
  refine j_icmp_ltN 9 dX1_body_4 (by decide) (by omega) (by omega) (fun b4 => ?_) (fun b4 => by exfalso; omega)
  refine j_aload_n dX1_body_9 rfl rfl ?_
  refine j_iload_n dX1_body_10 rfl rfl ?_
  refine j_callV (c_begins X (nI 13) (by omega)) dX1_body_11 rfl mv_X1_35 (by first | exact X.1 | exact X.2.1 | exact X.2.2.2.1 | exact X.2.2.2.2.1 | exact X.2.2.2.2.2.2.1.o | exact X.2.2.2.2.2.2.1.c | exact X.2.2.2.2.2.2.1.i | exact X.2.2.2.2.2.2.1.p | exact X.2.2.2.2.2.2.1.d | exact X.2.2.2.2.2.2.2.1.o | exact X.2.2.2.2.2.2.2.2.1 | exact X.2.2.2.2.2.2.2.2.2.1 | exact X.2.2.2.2.2.2.2.2.2.2.2.1 | exact X.2.2.2.2.2.2.2.2.2.2.2.2.2.1 | exact X.2.2.2.2.2.2.2.2.2.2.2.2.2.2.1 | exact X.2.2.2.2.2.2.2.2.2.2.2.2.2.2.2) rfl ⟨(Nat.le_of_ble_eq_true rfl), (Nat.le_of_ble_eq_true rfl)⟩ ⟨(Nat.le_of_ble_eq_true rfl), (Nat.le_of_ble_eq_true rfl)⟩ (Nat.le_of_ble_eq_true rfl) ?_
  have X := (X.bods (upd bo tr (nI 13))).asks (tr + 1)
  refine j_iload dX1_body_14 rfl ?_
  refine j_iconst (nI 1) dX1_body_16 rfl ?_
  first | refine j_iaddN dX1_body_17 ?_ | refine j_iadd dX1_body_17 ?_
  refine j_istore dX1_body_18 (Nat.le_of_ble_eq_true rfl) rfl ?_
  refine j_iload_n dX1_body_20 rfl rfl ?_
  refine j_tabK 13 144 dX1_body_21 rfl (by decide) (by decide) (by decide) rfl (by decide) ?_
  refine j_aload_n dX1_body_144 rfl rfl ?_
  refine j_bipush (nI 10) dX1_body_145 rfl ?_
  refine j_aload_n dX1_body_147 rfl rfl ?_
  refine j_iload_n dX1_body_148 rfl rfl ?_
  refine j_iload dX1_body_149 rfl ?_
  refine j_callV (c_b10 X hN hp (by omega) (by omega)) dX1_body_151 rfl mv_X1_31 (by first | exact X.1 | exact X.2.1 | exact X.2.2.2.1 | exact X.2.2.2.2.1 | exact X.2.2.2.2.2.2.1.o | exact X.2.2.2.2.2.2.1.c | exact X.2.2.2.2.2.2.1.i | exact X.2.2.2.2.2.2.1.p | exact X.2.2.2.2.2.2.1.d | exact X.2.2.2.2.2.2.2.1.o | exact X.2.2.2.2.2.2.2.2.1 | exact X.2.2.2.2.2.2.2.2.2.1 | exact X.2.2.2.2.2.2.2.2.2.2.2.1 | exact X.2.2.2.2.2.2.2.2.2.2.2.2.2.1 | exact X.2.2.2.2.2.2.2.2.2.2.2.2.2.2.1 | exact X.2.2.2.2.2.2.2.2.2.2.2.2.2.2.2) rfl ⟨(Nat.le_of_ble_eq_true rfl), (Nat.le_of_ble_eq_true rfl)⟩ ⟨(Nat.le_of_ble_eq_true rfl), (Nat.le_of_ble_eq_true rfl)⟩ (Nat.le_of_ble_eq_true rfl) ?_
  rw [show akH (akH σ (upd bo tr (nI 13)) (tr + 1)) (apB (upd bo tr (nI 13)) (tr + 1) [10]) (tr + 1 + 1) = akH σ (apB (upd bo tr (nI 13)) (tr + 1) [10]) (tr + 1 + 1) from akH2]
  refine j_bipush (nI 100) dX1_body_154 rfl ?_
  refine j_isub dX1_body_156 ?_
  exact j_iret rfl dX1_body_157 rfl rfl (Nat.le_of_ble_eq_true rfl) (Nat.le_of_ble_eq_true rfl)
theorem c_b14 (X : XR σ lf fd rl rn ri tp rd dd d df nx kp da di tr bo ne) {p dp : Nat} (hN : sN d ≤ 7) (hp : p < sN d) (hd : dp + 2 < 8) (ht : tr + 3 ≤ 16) : Ct G yX1_body cX1_body 6 (some .int) 4 0 0 z σ [.ref 168, .int (nI 14), .ref 25, .int (nI p), .int (nI dp)] (some (.int (nI 2 * (sC d p - nI 100)))) z (akH σ (apB bo tr [14, 13, 10]) (tr + 3)) := by
  refine Ct.ofJ RX1 rfl [some (.ref 168), some (.int (nI 14)), some (.ref 25), some (.int (nI p)), some (.int (nI dp)), none] rfl (by decide) (by simp [Value.category]) ?_
  refine j_iload dX1_body_0 rfl ?_
  refine j_bipush (nI 8) dX1_body_2 rfl ?_
  refine j_icmp_ltN 9 dX1_body_4 (by decide) (by omega) (by omega) (fun b4 => ?_) (fun b4 => by exfalso; omega)
  refine j_aload_n dX1_body_9 rfl rfl ?_
  refine j_iload_n dX1_body_10 rfl rfl ?_
  refine j_callV (c_begins X (nI 14) (by omega)) dX1_body_11 rfl mv_X1_35 (by first | exact X.1 | exact X.2.1 | exact X.2.2.2.1 | exact X.2.2.2.2.1 | exact X.2.2.2.2.2.2.1.o | exact X.2.2.2.2.2.2.1.c | exact X.2.2.2.2.2.2.1.i | exact X.2.2.2.2.2.2.1.p | exact X.2.2.2.2.2.2.1.d | exact X.2.2.2.2.2.2.2.1.o | exact X.2.2.2.2.2.2.2.2.1 | exact X.2.2.2.2.2.2.2.2.2.1 | exact X.2.2.2.2.2.2.2.2.2.2.2.1 | exact X.2.2.2.2.2.2.2.2.2.2.2.2.2.1 | exact X.2.2.2.2.2.2.2.2.2.2.2.2.2.2.1 | exact X.2.2.2.2.2.2.2.2.2.2.2.2.2.2.2) rfl ⟨(Nat.le_of_ble_eq_true rfl), (Nat.le_of_ble_eq_true rfl)⟩ ⟨(Nat.le_of_ble_eq_true rfl), (Nat.le_of_ble_eq_true rfl)⟩ (Nat.le_of_ble_eq_true rfl) ?_
  have X := (X.bods (upd bo tr (nI 14))).asks (tr + 1)
  refine j_iload dX1_body_14 rfl ?_
  refine j_iconst (nI 1) dX1_body_16 rfl ?_
  first | refine j_iaddN dX1_body_17 ?_ | refine j_iadd dX1_body_17 ?_
  refine j_istore dX1_body_18 (Nat.le_of_ble_eq_true rfl) rfl ?_
  refine j_iload_n dX1_body_20 rfl rfl ?_
  refine j_tabK 14 158 dX1_body_21 rfl (by decide) (by decide) (by decide) rfl (by decide) ?_
  refine j_iconst (nI 2) dX1_body_158 rfl ?_
  refine j_aload_n dX1_body_159 rfl rfl ?_
  refine j_bipush (nI 13) dX1_body_160 rfl ?_
  refine j_aload_n dX1_body_162 rfl rfl ?_
  refine j_iload_n dX1_body_163 rfl rfl ?_
  refine j_iload dX1_body_164 rfl ?_
  refine j_callV (c_b13 X hN hp (by omega) (by omega)) dX1_body_166 rfl mv_X1_31 (by first | exact X.1 | exact X.2.1 | exact X.2.2.2.1 | exact X.2.2.2.2.1 | exact X.2.2.2.2.2.2.1.o | exact X.2.2.2.2.2.2.1.c | exact X.2.2.2.2.2.2.1.i | exact X.2.2.2.2.2.2.1.p | exact X.2.2.2.2.2.2.1.d | exact X.2.2.2.2.2.2.2.1.o | exact X.2.2.2.2.2.2.2.2.1 | exact X.2.2.2.2.2.2.2.2.2.1 | exact X.2.2.2.2.2.2.2.2.2.2.2.1 | exact X.2.2.2.2.2.2.2.2.2.2.2.2.2.1 | exact X.2.2.2.2.2.2.2.2.2.2.2.2.2.2.1 | exact X.2.2.2.2.2.2.2.2.2.2.2.2.2.2.2) rfl ⟨(Nat.le_of_ble_eq_true rfl), (Nat.le_of_ble_eq_true rfl)⟩ ⟨(Nat.le_of_ble_eq_true rfl), (Nat.le_of_ble_eq_true rfl)⟩ (Nat.le_of_ble_eq_true rfl) ?_
  rw [show akH (akH σ (upd bo tr (nI 14)) (tr + 1)) (apB (upd bo tr (nI 14)) (tr + 1) [13, 10]) (tr + 1 + 2) = akH σ (apB (upd bo tr (nI 14)) (tr + 1) [13, 10]) (tr + 1 + 2) from akH2]
  refine j_imul dX1_body_169 ?_
  exact j_iret rfl dX1_body_170 rfl rfl (Nat.le_of_ble_eq_true rfl) (Nat.le_of_ble_eq_true rfl)
theorem c_b11_1 (X : XR σ lf fd rl rn ri tp rd dd d df nx kp da di tr bo ne) {p dp : Nat} (hN : sN d ≤ 7) (hp : p < sN d) (hu : 1 ≤ sU d) (hu2 : sU d ≤ 20) (hk : kindI (sD d) (sF d) (sN d) (sU d) p = nI 1) (hd : dp + 4 < 8) (ht : tr + 4 ≤ 16) : Ct G yX1_body cX1_body 6 (some .int) 6 0 0 z σ [.ref 168, .int (nI 11), .ref 25, .int (nI p), .int (nI dp)] (some (.int (sC d p + (nI p + dsum (sD d) (sN d) p)))) z (akH σ (apB bo tr [11, 10, 21, 20]) (tr + 4)) := by
  refine Ct.ofJ RX1 rfl [some (.ref 168), some (.int (nI 11)), some (.ref 25), some (.int (nI p)), some (.int (nI dp)), none] rfl (by decide) (by simp [Value.category]) ?_
  have X0 := X
  refine j_iload dX1_body_0 rfl ?_
  refine j_bipush (nI 8) dX1_body_2 rfl ?_
  refine j_icmp_ltN 9 dX1_body_4 (by decide) (by omega) (by omega) (fun b4 => ?_) (fun b4 => by exfalso; omega)
  refine j_aload_n dX1_body_9 rfl rfl ?_
  refine j_iload_n dX1_body_10 rfl rfl ?_
  refine j_callV (c_begins X (nI 11) (by omega)) dX1_body_11 rfl mv_X1_35 (by first | exact X.1 | exact X.2.1 | exact X.2.2.2.1 | exact X.2.2.2.2.1 | exact X.2.2.2.2.2.2.1.o | exact X.2.2.2.2.2.2.1.c | exact X.2.2.2.2.2.2.1.i | exact X.2.2.2.2.2.2.1.p | exact X.2.2.2.2.2.2.1.d | exact X.2.2.2.2.2.2.2.1.o | exact X.2.2.2.2.2.2.2.2.1 | exact X.2.2.2.2.2.2.2.2.2.1 | exact X.2.2.2.2.2.2.2.2.2.2.2.1 | exact X.2.2.2.2.2.2.2.2.2.2.2.2.2.1 | exact X.2.2.2.2.2.2.2.2.2.2.2.2.2.2.1 | exact X.2.2.2.2.2.2.2.2.2.2.2.2.2.2.2) rfl ⟨(Nat.le_of_ble_eq_true rfl), (Nat.le_of_ble_eq_true rfl)⟩ ⟨(Nat.le_of_ble_eq_true rfl), (Nat.le_of_ble_eq_true rfl)⟩ (Nat.le_of_ble_eq_true rfl) ?_
  have X := (X.bods (upd bo tr (nI 11))).asks (tr + 1)
  refine j_iload dX1_body_14 rfl ?_
  refine j_iconst (nI 1) dX1_body_16 rfl ?_
  first | refine j_iaddN dX1_body_17 ?_ | refine j_iadd dX1_body_17 ?_
  refine j_istore dX1_body_18 (Nat.le_of_ble_eq_true rfl) rfl ?_
  refine j_iload_n dX1_body_20 rfl rfl ?_
  refine j_tabK 11 103 dX1_body_21 rfl (by decide) (by decide) (by decide) rfl (by decide) ?_
  refine j_aload_n dX1_body_103 rfl rfl ?_
  refine j_bipush (nI 10) dX1_body_104 rfl ?_
  refine j_aload_n dX1_body_106 rfl rfl ?_
  refine j_iload_n dX1_body_107 rfl rfl ?_
  refine j_iload dX1_body_108 rfl ?_
  refine j_callV (c_b10 X hN hp (by omega) (by omega)) dX1_body_110 rfl mv_X1_31 (by first | exact X.1 | exact X.2.1 | exact X.2.2.2.1 | exact X.2.2.2.2.1 | exact X.2.2.2.2.2.2.1.o | exact X.2.2.2.2.2.2.1.c | exact X.2.2.2.2.2.2.1.i | exact X.2.2.2.2.2.2.1.p | exact X.2.2.2.2.2.2.1.d | exact X.2.2.2.2.2.2.2.1.o | exact X.2.2.2.2.2.2.2.2.1 | exact X.2.2.2.2.2.2.2.2.2.1 | exact X.2.2.2.2.2.2.2.2.2.2.2.1 | exact X.2.2.2.2.2.2.2.2.2.2.2.2.2.1 | exact X.2.2.2.2.2.2.2.2.2.2.2.2.2.2.1 | exact X.2.2.2.2.2.2.2.2.2.2.2.2.2.2.2) rfl ⟨(Nat.le_of_ble_eq_true rfl), (Nat.le_of_ble_eq_true rfl)⟩ ⟨(Nat.le_of_ble_eq_true rfl), (Nat.le_of_ble_eq_true rfl)⟩ (Nat.le_of_ble_eq_true rfl) ?_
  rw [show akH (akH σ (upd bo tr (nI 11)) (tr + 1)) (apB (upd bo tr (nI 11)) (tr + 1) [10]) (tr + 1 + 1) = akH σ (apB (upd bo tr (nI 11)) (tr + 1) [10]) (tr + 1 + 1) from akH2]
  have X := (X0.bods (apB (upd bo tr (nI 11)) (tr + 1) [10])).asks (tr + 1 + 1)
  refine j_aload_n dX1_body_113 rfl rfl ?_
  refine j_gets RX1 "MARK_BODIES" 202 dX1_body_114 fl_X1_28 (fun _ _ h => h.2.2.1.1) ?_
  refine j_aload_n dX1_body_117 rfl rfl ?_
  refine j_iload_n dX1_body_118 rfl rfl ?_
  refine j_callV (c_kindOfS X.2.2.2.2.2.2.1 hN (by omega) hu hu2) dX1_body_119 rfl mv_X1_19 (by first | exact X.1 | exact X.2.1 | exact X.2.2.2.1 | exact X.2.2.2.2.1 | exact X.2.2.2.2.2.2.1.o | exact X.2.2.2.2.2.2.1.c | exact X.2.2.2.2.2.2.1.i | exact X.2.2.2.2.2.2.1.p | exact X.2.2.2.2.2.2.1.d | exact X.2.2.2.2.2.2.2.1.o | exact X.2.2.2.2.2.2.2.2.1 | exact X.2.2.2.2.2.2.2.2.2.1 | exact X.2.2.2.2.2.2.2.2.2.2.2.1 | exact X.2.2.2.2.2.2.2.2.2.2.2.2.2.1 | exact X.2.2.2.2.2.2.2.2.2.2.2.2.2.2.1 | exact X.2.2.2.2.2.2.2.2.2.2.2.2.2.2.2) rfl ⟨(Nat.le_of_ble_eq_true rfl), (Nat.le_of_ble_eq_true rfl)⟩ ⟨(Nat.le_of_ble_eq_true rfl), (Nat.le_of_ble_eq_true rfl)⟩ (Nat.le_of_ble_eq_true rfl) ?_
  refine j_tld 202 tb2 dX1_body_122 (fun _ _ h => h.2.2.1.2) hk (by decide) (nI 21) (by decide) ?_
  refine j_aload_n dX1_body_123 rfl rfl ?_
  refine j_iload_n dX1_body_124 rfl rfl ?_
  refine j_iload dX1_body_125 rfl ?_
  refine j_callV (c_b21 X hN hp (by omega) (by omega)) dX1_body_127 rfl mv_X1_31 (by first | exact X.1 | exact X.2.1 | exact X.2.2.2.1 | exact X.2.2.2.2.1 | exact X.2.2.2.2.2.2.1.o | exact X.2.2.2.2.2.2.1.c | exact X.2.2.2.2.2.2.1.i | exact X.2.2.2.2.2.2.1.p | exact X.2.2.2.2.2.2.1.d | exact X.2.2.2.2.2.2.2.1.o | exact X.2.2.2.2.2.2.2.2.1 | exact X.2.2.2.2.2.2.2.2.2.1 | exact X.2.2.2.2.2.2.2.2.2.2.2.1 | exact X.2.2.2.2.2.2.2.2.2.2.2.2.2.1 | exact X.2.2.2.2.2.2.2.2.2.2.2.2.2.2.1 | exact X.2.2.2.2.2.2.2.2.2.2.2.2.2.2.2) rfl ⟨(Nat.le_of_ble_eq_true rfl), (Nat.le_of_ble_eq_true rfl)⟩ ⟨(Nat.le_of_ble_eq_true rfl), (Nat.le_of_ble_eq_true rfl)⟩ (Nat.le_of_ble_eq_true rfl) ?_
  rw [show akH (akH σ (apB (upd bo tr (nI 11)) (tr + 1) [10]) (tr + 1 + 1)) (apB (apB (upd bo tr (nI 11)) (tr + 1) [10]) (tr + 1 + 1) [21, 20]) (tr + 1 + 1 + 2) = akH σ (apB (apB (upd bo tr (nI 11)) (tr + 1) [10]) (tr + 1 + 1) [21, 20]) (tr + 1 + 1 + 2) from akH2]
  first | refine j_iaddN dX1_body_130 ?_ | refine j_iadd dX1_body_130 ?_
  exact j_iret rfl dX1_body_131 rfl rfl (Nat.le_of_ble_eq_true rfl) (Nat.le_of_ble_eq_true rfl)
theorem c_b11_2 (X : XR σ lf fd rl rn ri tp rd dd d df nx kp da di tr bo ne) {p dp : Nat} (hN : sN d ≤ 7) (hp : p < sN d) (hu : 1 ≤ sU d) (hu2 : sU d ≤ 20) (hk : kindI (sD d) (sF d) (sN d) (sU d) p = nI 2) (hd : dp + 4 < 8) (ht : tr + 5 ≤ 16) : Ct G yX1_body cX1_body 6 (some .int) 6 0 0 z σ [.ref 168, .int (nI 11), .ref 25, .int (nI p), .int (nI dp)] (some (.int (sC d p + (nI p + dsum (sD d) (sN d) p - nI 1000)))) z (akH σ (apB bo tr [11, 10, 22, 21, 20]) (tr + 5)) := by
  refine Ct.ofJ RX1 rfl [some (.ref 168), some (.int (nI 11)), some (.ref 25), some (.int (nI p)), some (.int (nI dp)), none] rfl (by decide) (by simp [Value.category]) ?_
  have X0 := X
  refine j_iload dX1_body_0 rfl ?_
  refine j_bipush (nI 8) dX1_body_2 rfl ?_
  refine j_icmp_ltN 9 dX1_body_4 (by decide) (by omega) (by omega) (fun b4 => ?_) (fun b4 => by exfalso; omega)
  refine j_aload_n dX1_body_9 rfl rfl ?_
  refine j_iload_n dX1_body_10 rfl rfl ?_
  refine j_callV (c_begins X (nI 11) (by omega)) dX1_body_11 rfl mv_X1_35 (by first | exact X.1 | exact X.2.1 | exact X.2.2.2.1 | exact X.2.2.2.2.1 | exact X.2.2.2.2.2.2.1.o | exact X.2.2.2.2.2.2.1.c | exact X.2.2.2.2.2.2.1.i | exact X.2.2.2.2.2.2.1.p | exact X.2.2.2.2.2.2.1.d | exact X.2.2.2.2.2.2.2.1.o | exact X.2.2.2.2.2.2.2.2.1 | exact X.2.2.2.2.2.2.2.2.2.1 | exact X.2.2.2.2.2.2.2.2.2.2.2.1 | exact X.2.2.2.2.2.2.2.2.2.2.2.2.2.1 | exact X.2.2.2.2.2.2.2.2.2.2.2.2.2.2.1 | exact X.2.2.2.2.2.2.2.2.2.2.2.2.2.2.2) rfl ⟨(Nat.le_of_ble_eq_true rfl), (Nat.le_of_ble_eq_true rfl)⟩ ⟨(Nat.le_of_ble_eq_true rfl), (Nat.le_of_ble_eq_true rfl)⟩ (Nat.le_of_ble_eq_true rfl) ?_
  have X := (X.bods (upd bo tr (nI 11))).asks (tr + 1)
  refine j_iload dX1_body_14 rfl ?_
  refine j_iconst (nI 1) dX1_body_16 rfl ?_
  first | refine j_iaddN dX1_body_17 ?_ | refine j_iadd dX1_body_17 ?_
  refine j_istore dX1_body_18 (Nat.le_of_ble_eq_true rfl) rfl ?_
  refine j_iload_n dX1_body_20 rfl rfl ?_
  refine j_tabK 11 103 dX1_body_21 rfl (by decide) (by decide) (by decide) rfl (by decide) ?_
  refine j_aload_n dX1_body_103 rfl rfl ?_
  refine j_bipush (nI 10) dX1_body_104 rfl ?_
  refine j_aload_n dX1_body_106 rfl rfl ?_
  refine j_iload_n dX1_body_107 rfl rfl ?_
  refine j_iload dX1_body_108 rfl ?_
  refine j_callV (c_b10 X hN hp (by omega) (by omega)) dX1_body_110 rfl mv_X1_31 (by first | exact X.1 | exact X.2.1 | exact X.2.2.2.1 | exact X.2.2.2.2.1 | exact X.2.2.2.2.2.2.1.o | exact X.2.2.2.2.2.2.1.c | exact X.2.2.2.2.2.2.1.i | exact X.2.2.2.2.2.2.1.p | exact X.2.2.2.2.2.2.1.d | exact X.2.2.2.2.2.2.2.1.o | exact X.2.2.2.2.2.2.2.2.1 | exact X.2.2.2.2.2.2.2.2.2.1 | exact X.2.2.2.2.2.2.2.2.2.2.2.1 | exact X.2.2.2.2.2.2.2.2.2.2.2.2.2.1 | exact X.2.2.2.2.2.2.2.2.2.2.2.2.2.2.1 | exact X.2.2.2.2.2.2.2.2.2.2.2.2.2.2.2) rfl ⟨(Nat.le_of_ble_eq_true rfl), (Nat.le_of_ble_eq_true rfl)⟩ ⟨(Nat.le_of_ble_eq_true rfl), (Nat.le_of_ble_eq_true rfl)⟩ (Nat.le_of_ble_eq_true rfl) ?_
  rw [show akH (akH σ (upd bo tr (nI 11)) (tr + 1)) (apB (upd bo tr (nI 11)) (tr + 1) [10]) (tr + 1 + 1) = akH σ (apB (upd bo tr (nI 11)) (tr + 1) [10]) (tr + 1 + 1) from akH2]
  have X := (X0.bods (apB (upd bo tr (nI 11)) (tr + 1) [10])).asks (tr + 1 + 1)
  refine j_aload_n dX1_body_113 rfl rfl ?_
  refine j_gets RX1 "MARK_BODIES" 202 dX1_body_114 fl_X1_28 (fun _ _ h => h.2.2.1.1) ?_
  refine j_aload_n dX1_body_117 rfl rfl ?_
  refine j_iload_n dX1_body_118 rfl rfl ?_
  refine j_callV (c_kindOfS X.2.2.2.2.2.2.1 hN (by omega) hu hu2) dX1_body_119 rfl mv_X1_19 (by first | exact X.1 | exact X.2.1 | exact X.2.2.2.1 | exact X.2.2.2.2.1 | exact X.2.2.2.2.2.2.1.o | exact X.2.2.2.2.2.2.1.c | exact X.2.2.2.2.2.2.1.i | exact X.2.2.2.2.2.2.1.p | exact X.2.2.2.2.2.2.1.d | exact X.2.2.2.2.2.2.2.1.o | exact X.2.2.2.2.2.2.2.2.1 | exact X.2.2.2.2.2.2.2.2.2.1 | exact X.2.2.2.2.2.2.2.2.2.2.2.1 | exact X.2.2.2.2.2.2.2.2.2.2.2.2.2.1 | exact X.2.2.2.2.2.2.2.2.2.2.2.2.2.2.1 | exact X.2.2.2.2.2.2.2.2.2.2.2.2.2.2.2) rfl ⟨(Nat.le_of_ble_eq_true rfl), (Nat.le_of_ble_eq_true rfl)⟩ ⟨(Nat.le_of_ble_eq_true rfl), (Nat.le_of_ble_eq_true rfl)⟩ (Nat.le_of_ble_eq_true rfl) ?_
  refine j_tld 202 tb2 dX1_body_122 (fun _ _ h => h.2.2.1.2) hk (by decide) (nI 22) (by decide) ?_
  refine j_aload_n dX1_body_123 rfl rfl ?_
  refine j_iload_n dX1_body_124 rfl rfl ?_
  refine j_iload dX1_body_125 rfl ?_
  refine j_callV (c_b22 X hN hp (by omega) (by omega)) dX1_body_127 rfl mv_X1_31 (by first | exact X.1 | exact X.2.1 | exact X.2.2.2.1 | exact X.2.2.2.2.1 | exact X.2.2.2.2.2.2.1.o | exact X.2.2.2.2.2.2.1.c | exact X.2.2.2.2.2.2.1.i | exact X.2.2.2.2.2.2.1.p | exact X.2.2.2.2.2.2.1.d | exact X.2.2.2.2.2.2.2.1.o | exact X.2.2.2.2.2.2.2.2.1 | exact X.2.2.2.2.2.2.2.2.2.1 | exact X.2.2.2.2.2.2.2.2.2.2.2.1 | exact X.2.2.2.2.2.2.2.2.2.2.2.2.2.1 | exact X.2.2.2.2.2.2.2.2.2.2.2.2.2.2.1 | exact X.2.2.2.2.2.2.2.2.2.2.2.2.2.2.2) rfl ⟨(Nat.le_of_ble_eq_true rfl), (Nat.le_of_ble_eq_true rfl)⟩ ⟨(Nat.le_of_ble_eq_true rfl), (Nat.le_of_ble_eq_true rfl)⟩ (Nat.le_of_ble_eq_true rfl) ?_
  rw [show akH (akH σ (apB (upd bo tr (nI 11)) (tr + 1) [10]) (tr + 1 + 1)) (apB (apB (upd bo tr (nI 11)) (tr + 1) [10]) (tr + 1 + 1) [22, 21, 20]) (tr + 1 + 1 + 3) = akH σ (apB (apB (upd bo tr (nI 11)) (tr + 1) [10]) (tr + 1 + 1) [22, 21, 20]) (tr + 1 + 1 + 3) from akH2]
  first | refine j_iaddN dX1_body_130 ?_ | refine j_iadd dX1_body_130 ?_
  exact j_iret rfl dX1_body_131 rfl rfl (Nat.le_of_ble_eq_true rfl) (Nat.le_of_ble_eq_true rfl)
theorem c_b11_3 (X : XR σ lf fd rl rn ri tp rd dd d df nx kp da di tr bo ne) {p dp : Nat} (hN : sN d ≤ 7) (hp : p < sN d) (hu : 1 ≤ sU d) (hu2 : sU d ≤ 20) (hk : kindI (sD d) (sF d) (sN d) (sU d) p = nI 3) (hd : dp + 4 < 8) (ht : tr + 6 ≤ 16) : Ct G yX1_body cX1_body 6 (some .int) 6 0 0 z σ [.ref 168, .int (nI 11), .ref 25, .int (nI p), .int (nI dp)] (some (.int (sC d p + (nI 2 * (nI p + dsum (sD d) (sN d) p - nI 1000))))) z (akH σ (apB bo tr [11, 10, 24, 22, 21, 20]) (tr + 6)) := by
  refine Ct.ofJ RX1 rfl [some (.ref 168), some (.int (nI 11)), some (.ref 25), some (.int (nI p)), some (.int (nI dp)), none] rfl (by decide) (by simp [Value.category]) ?_
  have X0 := X
  refine j_iload dX1_body_0 rfl ?_
  refine j_bipush (nI 8) dX1_body_2 rfl ?_
  refine j_icmp_ltN 9 dX1_body_4 (by decide) (by omega) (by omega) (fun b4 => ?_) (fun b4 => by exfalso; omega)
  refine j_aload_n dX1_body_9 rfl rfl ?_
  refine j_iload_n dX1_body_10 rfl rfl ?_
  refine j_callV (c_begins X (nI 11) (by omega)) dX1_body_11 rfl mv_X1_35 (by first | exact X.1 | exact X.2.1 | exact X.2.2.2.1 | exact X.2.2.2.2.1 | exact X.2.2.2.2.2.2.1.o | exact X.2.2.2.2.2.2.1.c | exact X.2.2.2.2.2.2.1.i | exact X.2.2.2.2.2.2.1.p | exact X.2.2.2.2.2.2.1.d | exact X.2.2.2.2.2.2.2.1.o | exact X.2.2.2.2.2.2.2.2.1 | exact X.2.2.2.2.2.2.2.2.2.1 | exact X.2.2.2.2.2.2.2.2.2.2.2.1 | exact X.2.2.2.2.2.2.2.2.2.2.2.2.2.1 | exact X.2.2.2.2.2.2.2.2.2.2.2.2.2.2.1 | exact X.2.2.2.2.2.2.2.2.2.2.2.2.2.2.2) rfl ⟨(Nat.le_of_ble_eq_true rfl), (Nat.le_of_ble_eq_true rfl)⟩ ⟨(Nat.le_of_ble_eq_true rfl), (Nat.le_of_ble_eq_true rfl)⟩ (Nat.le_of_ble_eq_true rfl) ?_
  have X := (X.bods (upd bo tr (nI 11))).asks (tr + 1)
  refine j_iload dX1_body_14 rfl ?_
  refine j_iconst (nI 1) dX1_body_16 rfl ?_
  first | refine j_iaddN dX1_body_17 ?_ | refine j_iadd dX1_body_17 ?_
  refine j_istore dX1_body_18 (Nat.le_of_ble_eq_true rfl) rfl ?_
  refine j_iload_n dX1_body_20 rfl rfl ?_
  refine j_tabK 11 103 dX1_body_21 rfl (by decide) (by decide) (by decide) rfl (by decide) ?_
  refine j_aload_n dX1_body_103 rfl rfl ?_
  refine j_bipush (nI 10) dX1_body_104 rfl ?_
  refine j_aload_n dX1_body_106 rfl rfl ?_
  refine j_iload_n dX1_body_107 rfl rfl ?_
  refine j_iload dX1_body_108 rfl ?_
  refine j_callV (c_b10 X hN hp (by omega) (by omega)) dX1_body_110 rfl mv_X1_31 (by first | exact X.1 | exact X.2.1 | exact X.2.2.2.1 | exact X.2.2.2.2.1 | exact X.2.2.2.2.2.2.1.o | exact X.2.2.2.2.2.2.1.c | exact X.2.2.2.2.2.2.1.i | exact X.2.2.2.2.2.2.1.p | exact X.2.2.2.2.2.2.1.d | exact X.2.2.2.2.2.2.2.1.o | exact X.2.2.2.2.2.2.2.2.1 | exact X.2.2.2.2.2.2.2.2.2.1 | exact X.2.2.2.2.2.2.2.2.2.2.2.1 | exact X.2.2.2.2.2.2.2.2.2.2.2.2.2.1 | exact X.2.2.2.2.2.2.2.2.2.2.2.2.2.2.1 | exact X.2.2.2.2.2.2.2.2.2.2.2.2.2.2.2) rfl ⟨(Nat.le_of_ble_eq_true rfl), (Nat.le_of_ble_eq_true rfl)⟩ ⟨(Nat.le_of_ble_eq_true rfl), (Nat.le_of_ble_eq_true rfl)⟩ (Nat.le_of_ble_eq_true rfl) ?_
  rw [show akH (akH σ (upd bo tr (nI 11)) (tr + 1)) (apB (upd bo tr (nI 11)) (tr + 1) [10]) (tr + 1 + 1) = akH σ (apB (upd bo tr (nI 11)) (tr + 1) [10]) (tr + 1 + 1) from akH2]
  have X := (X0.bods (apB (upd bo tr (nI 11)) (tr + 1) [10])).asks (tr + 1 + 1)
  refine j_aload_n dX1_body_113 rfl rfl ?_
  refine j_gets RX1 "MARK_BODIES" 202 dX1_body_114 fl_X1_28 (fun _ _ h => h.2.2.1.1) ?_
  refine j_aload_n dX1_body_117 rfl rfl ?_
  refine j_iload_n dX1_body_118 rfl rfl ?_
  refine j_callV (c_kindOfS X.2.2.2.2.2.2.1 hN (by omega) hu hu2) dX1_body_119 rfl mv_X1_19 (by first | exact X.1 | exact X.2.1 | exact X.2.2.2.1 | exact X.2.2.2.2.1 | exact X.2.2.2.2.2.2.1.o | exact X.2.2.2.2.2.2.1.c | exact X.2.2.2.2.2.2.1.i | exact X.2.2.2.2.2.2.1.p | exact X.2.2.2.2.2.2.1.d | exact X.2.2.2.2.2.2.2.1.o | exact X.2.2.2.2.2.2.2.2.1 | exact X.2.2.2.2.2.2.2.2.2.1 | exact X.2.2.2.2.2.2.2.2.2.2.2.1 | exact X.2.2.2.2.2.2.2.2.2.2.2.2.2.1 | exact X.2.2.2.2.2.2.2.2.2.2.2.2.2.2.1 | exact X.2.2.2.2.2.2.2.2.2.2.2.2.2.2.2) rfl ⟨(Nat.le_of_ble_eq_true rfl), (Nat.le_of_ble_eq_true rfl)⟩ ⟨(Nat.le_of_ble_eq_true rfl), (Nat.le_of_ble_eq_true rfl)⟩ (Nat.le_of_ble_eq_true rfl) ?_
  refine j_tld 202 tb2 dX1_body_122 (fun _ _ h => h.2.2.1.2) hk (by decide) (nI 24) (by decide) ?_
  refine j_aload_n dX1_body_123 rfl rfl ?_
  refine j_iload_n dX1_body_124 rfl rfl ?_
  refine j_iload dX1_body_125 rfl ?_
  refine j_callV (c_b24 X hN hp (by omega) (by omega)) dX1_body_127 rfl mv_X1_31 (by first | exact X.1 | exact X.2.1 | exact X.2.2.2.1 | exact X.2.2.2.2.1 | exact X.2.2.2.2.2.2.1.o | exact X.2.2.2.2.2.2.1.c | exact X.2.2.2.2.2.2.1.i | exact X.2.2.2.2.2.2.1.p | exact X.2.2.2.2.2.2.1.d | exact X.2.2.2.2.2.2.2.1.o | exact X.2.2.2.2.2.2.2.2.1 | exact X.2.2.2.2.2.2.2.2.2.1 | exact X.2.2.2.2.2.2.2.2.2.2.2.1 | exact X.2.2.2.2.2.2.2.2.2.2.2.2.2.1 | exact X.2.2.2.2.2.2.2.2.2.2.2.2.2.2.1 | exact X.2.2.2.2.2.2.2.2.2.2.2.2.2.2.2) rfl ⟨(Nat.le_of_ble_eq_true rfl), (Nat.le_of_ble_eq_true rfl)⟩ ⟨(Nat.le_of_ble_eq_true rfl), (Nat.le_of_ble_eq_true rfl)⟩ (Nat.le_of_ble_eq_true rfl) ?_
  rw [show akH (akH σ (apB (upd bo tr (nI 11)) (tr + 1) [10]) (tr + 1 + 1)) (apB (apB (upd bo tr (nI 11)) (tr + 1) [10]) (tr + 1 + 1) [24, 22, 21, 20]) (tr + 1 + 1 + 4) = akH σ (apB (apB (upd bo tr (nI 11)) (tr + 1) [10]) (tr + 1 + 1) [24, 22, 21, 20]) (tr + 1 + 1 + 4) from akH2]
  first | refine j_iaddN dX1_body_130 ?_ | refine j_iadd dX1_body_130 ?_
  exact j_iret rfl dX1_body_131 rfl rfl (Nat.le_of_ble_eq_true rfl) (Nat.le_of_ble_eq_true rfl)
theorem c_b23_4 (X : XR σ lf fd rl rn ri tp rd dd d df nx kp da di tr bo ne) {p dp : Nat} (hN : sN d ≤ 7) (hp : p < sN d) (hu : 1 ≤ sU d) (hu2 : sU d ≤ 20) (hk : kindI (sD d) (sF d) (sN d) (sU d) p = nI 4) (hd : dp + 3 < 8) (ht : tr + 4 ≤ 16) : Ct G yX1_body cX1_body 6 (some .int) 6 0 0 z σ [.ref 168, .int (nI 23), .ref 25, .int (nI p), .int (nI dp)] (some (.int (nI p - (sC d p - nI 100)))) z (akH σ (apB bo tr [23, 20, 13, 10]) (tr + 4)) := by
  refine Ct.ofJ RX1 rfl [some (.ref 168), some (.int (nI 23)), some (.ref 25), some (.int (nI p)), some (.int (nI dp)), none] rfl (by decide) (by simp [Value.category]) ?_
  have X0 := X
  refine j_iload dX1_body_0 rfl ?_
  refine j_bipush (nI 8) dX1_body_2 rfl ?_
  refine j_icmp_ltN 9 dX1_body_4 (by decide) (by omega) (by omega) (fun b4 => ?_) (fun b4 => by exfalso; omega)
  refine j_aload_n dX1_body_9 rfl rfl ?_
  refine j_iload_n dX1_body_10 rfl rfl ?_
  refine j_callV (c_begins X (nI 23) (by omega)) dX1_body_11 rfl mv_X1_35 (by first | exact X.1 | exact X.2.1 | exact X.2.2.2.1 | exact X.2.2.2.2.1 | exact X.2.2.2.2.2.2.1.o | exact X.2.2.2.2.2.2.1.c | exact X.2.2.2.2.2.2.1.i | exact X.2.2.2.2.2.2.1.p | exact X.2.2.2.2.2.2.1.d | exact X.2.2.2.2.2.2.2.1.o | exact X.2.2.2.2.2.2.2.2.1 | exact X.2.2.2.2.2.2.2.2.2.1 | exact X.2.2.2.2.2.2.2.2.2.2.2.1 | exact X.2.2.2.2.2.2.2.2.2.2.2.2.2.1 | exact X.2.2.2.2.2.2.2.2.2.2.2.2.2.2.1 | exact X.2.2.2.2.2.2.2.2.2.2.2.2.2.2.2) rfl ⟨(Nat.le_of_ble_eq_true rfl), (Nat.le_of_ble_eq_true rfl)⟩ ⟨(Nat.le_of_ble_eq_true rfl), (Nat.le_of_ble_eq_true rfl)⟩ (Nat.le_of_ble_eq_true rfl) ?_
  have X := (X.bods (upd bo tr (nI 23))).asks (tr + 1)
  refine j_iload dX1_body_14 rfl ?_
  refine j_iconst (nI 1) dX1_body_16 rfl ?_
  first | refine j_iaddN dX1_body_17 ?_ | refine j_iadd dX1_body_17 ?_
  refine j_istore dX1_body_18 (Nat.le_of_ble_eq_true rfl) rfl ?_
  refine j_iload_n dX1_body_20 rfl rfl ?_
  refine j_tabK 23 205 dX1_body_21 rfl (by decide) (by decide) (by decide) rfl (by decide) ?_
  refine j_aload_n dX1_body_205 rfl rfl ?_
  refine j_bipush (nI 20) dX1_body_206 rfl ?_
  refine j_aload_n dX1_body_208 rfl rfl ?_
  refine j_iload_n dX1_body_209 rfl rfl ?_
  refine j_iload dX1_body_210 rfl ?_
  refine j_callV (c_b20 X hN hp (by omega) (by omega)) dX1_body_212 rfl mv_X1_31 (by first | exact X.1 | exact X.2.1 | exact X.2.2.2.1 | exact X.2.2.2.2.1 | exact X.2.2.2.2.2.2.1.o | exact X.2.2.2.2.2.2.1.c | exact X.2.2.2.2.2.2.1.i | exact X.2.2.2.2.2.2.1.p | exact X.2.2.2.2.2.2.1.d | exact X.2.2.2.2.2.2.2.1.o | exact X.2.2.2.2.2.2.2.2.1 | exact X.2.2.2.2.2.2.2.2.2.1 | exact X.2.2.2.2.2.2.2.2.2.2.2.1 | exact X.2.2.2.2.2.2.2.2.2.2.2.2.2.1 | exact X.2.2.2.2.2.2.2.2.2.2.2.2.2.2.1 | exact X.2.2.2.2.2.2.2.2.2.2.2.2.2.2.2) rfl ⟨(Nat.le_of_ble_eq_true rfl), (Nat.le_of_ble_eq_true rfl)⟩ ⟨(Nat.le_of_ble_eq_true rfl), (Nat.le_of_ble_eq_true rfl)⟩ (Nat.le_of_ble_eq_true rfl) ?_
  rw [show akH (akH σ (upd bo tr (nI 23)) (tr + 1)) (apB (upd bo tr (nI 23)) (tr + 1) [20]) (tr + 1 + 1) = akH σ (apB (upd bo tr (nI 23)) (tr + 1) [20]) (tr + 1 + 1) from akH2]
  have X := (X0.bods (apB (upd bo tr (nI 23)) (tr + 1) [20])).asks (tr + 1 + 1)
  refine j_aload_n dX1_body_215 rfl rfl ?_
  refine j_gets RX1 "SIZE_BODIES" 201 dX1_body_216 fl_X1_25 (fun _ _ h => h.2.1.1) ?_
  refine j_aload_n dX1_body_219 rfl rfl ?_
  refine j_iload_n dX1_body_220 rfl rfl ?_
  refine j_callV (c_kindOfS X.2.2.2.2.2.2.1 hN (by omega) hu hu2) dX1_body_221 rfl mv_X1_19 (by first | exact X.1 | exact X.2.1 | exact X.2.2.2.1 | exact X.2.2.2.2.1 | exact X.2.2.2.2.2.2.1.o | exact X.2.2.2.2.2.2.1.c | exact X.2.2.2.2.2.2.1.i | exact X.2.2.2.2.2.2.1.p | exact X.2.2.2.2.2.2.1.d | exact X.2.2.2.2.2.2.2.1.o | exact X.2.2.2.2.2.2.2.2.1 | exact X.2.2.2.2.2.2.2.2.2.1 | exact X.2.2.2.2.2.2.2.2.2.2.2.1 | exact X.2.2.2.2.2.2.2.2.2.2.2.2.2.1 | exact X.2.2.2.2.2.2.2.2.2.2.2.2.2.2.1 | exact X.2.2.2.2.2.2.2.2.2.2.2.2.2.2.2) rfl ⟨(Nat.le_of_ble_eq_true rfl), (Nat.le_of_ble_eq_true rfl)⟩ ⟨(Nat.le_of_ble_eq_true rfl), (Nat.le_of_ble_eq_true rfl)⟩ (Nat.le_of_ble_eq_true rfl) ?_
  refine j_tld 201 tb1 dX1_body_224 (fun _ _ h => h.2.1.2) hk (by decide) (nI 13) (by decide) ?_
  refine j_aload_n dX1_body_225 rfl rfl ?_
  refine j_iload_n dX1_body_226 rfl rfl ?_
  refine j_iload dX1_body_227 rfl ?_
  refine j_callV (c_b13 X hN hp (by omega) (by omega)) dX1_body_229 rfl mv_X1_31 (by first | exact X.1 | exact X.2.1 | exact X.2.2.2.1 | exact X.2.2.2.2.1 | exact X.2.2.2.2.2.2.1.o | exact X.2.2.2.2.2.2.1.c | exact X.2.2.2.2.2.2.1.i | exact X.2.2.2.2.2.2.1.p | exact X.2.2.2.2.2.2.1.d | exact X.2.2.2.2.2.2.2.1.o | exact X.2.2.2.2.2.2.2.2.1 | exact X.2.2.2.2.2.2.2.2.2.1 | exact X.2.2.2.2.2.2.2.2.2.2.2.1 | exact X.2.2.2.2.2.2.2.2.2.2.2.2.2.1 | exact X.2.2.2.2.2.2.2.2.2.2.2.2.2.2.1 | exact X.2.2.2.2.2.2.2.2.2.2.2.2.2.2.2) rfl ⟨(Nat.le_of_ble_eq_true rfl), (Nat.le_of_ble_eq_true rfl)⟩ ⟨(Nat.le_of_ble_eq_true rfl), (Nat.le_of_ble_eq_true rfl)⟩ (Nat.le_of_ble_eq_true rfl) ?_
  rw [show akH (akH σ (apB (upd bo tr (nI 23)) (tr + 1) [20]) (tr + 1 + 1)) (apB (apB (upd bo tr (nI 23)) (tr + 1) [20]) (tr + 1 + 1) [13, 10]) (tr + 1 + 1 + 2) = akH σ (apB (apB (upd bo tr (nI 23)) (tr + 1) [20]) (tr + 1 + 1) [13, 10]) (tr + 1 + 1 + 2) from akH2]
  refine j_isub dX1_body_232 ?_
  exact j_iret rfl dX1_body_233 rfl rfl (Nat.le_of_ble_eq_true rfl) (Nat.le_of_ble_eq_true rfl)
theorem c_b23_5 (X : XR σ lf fd rl rn ri tp rd dd d df nx kp da di tr bo ne) {p dp : Nat} (hN : sN d ≤ 7) (hp : p < sN d) (hu : 1 ≤ sU d) (hu2 : sU d ≤ 20) (hk : kindI (sD d) (sF d) (sN d) (sU d) p = nI 5) (hd : dp + 3 < 8) (ht : tr + 5 ≤ 16) : Ct G yX1_body cX1_body 6 (some .int) 6 0 0 z σ [.ref 168, .int (nI 23), .ref 25, .int (nI p), .int (nI dp)] (some (.int (nI p - (nI 2 * (sC d p - nI 100))))) z (akH σ (apB bo tr [23, 20, 14, 13, 10]) (tr + 5)) := by
  refine Ct.ofJ RX1 rfl [some (.ref 168), some (.int (nI 23)), some (.ref 25), some (.int (nI p)), some (.int (nI dp)), none] rfl (by decide) (by simp [Value.category]) ?_
  have X0 := X
  refine j_iload dX1_body_0 rfl ?_
  refine j_bipush (nI 8) dX1_body_2 rfl ?_
  refine j_icmp_ltN 9 dX1_body_4 (by decide) (by omega) (by omega) (fun b4 => ?_) (fun b4 => by exfalso; omega)
  refine j_aload_n dX1_body_9 rfl rfl ?_
  refine j_iload_n dX1_body_10 rfl rfl ?_
  refine j_callV (c_begins X (nI 23) (by omega)) dX1_body_11 rfl mv_X1_35 (by first | exact X.1 | exact X.2.1 | exact X.2.2.2.1 | exact X.2.2.2.2.1 | exact X.2.2.2.2.2.2.1.o | exact X.2.2.2.2.2.2.1.c | exact X.2.2.2.2.2.2.1.i | exact X.2.2.2.2.2.2.1.p | exact X.2.2.2.2.2.2.1.d | exact X.2.2.2.2.2.2.2.1.o | exact X.2.2.2.2.2.2.2.2.1 | exact X.2.2.2.2.2.2.2.2.2.1 | exact X.2.2.2.2.2.2.2.2.2.2.2.1 | exact X.2.2.2.2.2.2.2.2.2.2.2.2.2.1 | exact X.2.2.2.2.2.2.2.2.2.2.2.2.2.2.1 | exact X.2.2.2.2.2.2.2.2.2.2.2.2.2.2.2) rfl ⟨(Nat.le_of_ble_eq_true rfl), (Nat.le_of_ble_eq_true rfl)⟩ ⟨(Nat.le_of_ble_eq_true rfl), (Nat.le_of_ble_eq_true rfl)⟩ (Nat.le_of_ble_eq_true rfl) ?_
  have X := (X.bods (upd bo tr (nI 23))).asks (tr + 1)
  refine j_iload dX1_body_14 rfl ?_
  refine j_iconst (nI 1) dX1_body_16 rfl ?_
  first | refine j_iaddN dX1_body_17 ?_ | refine j_iadd dX1_body_17 ?_
  refine j_istore dX1_body_18 (Nat.le_of_ble_eq_true rfl) rfl ?_
  refine j_iload_n dX1_body_20 rfl rfl ?_
  refine j_tabK 23 205 dX1_body_21 rfl (by decide) (by decide) (by decide) rfl (by decide) ?_
  refine j_aload_n dX1_body_205 rfl rfl ?_
  refine j_bipush (nI 20) dX1_body_206 rfl ?_
  refine j_aload_n dX1_body_208 rfl rfl ?_
  refine j_iload_n dX1_body_209 rfl rfl ?_
  refine j_iload dX1_body_210 rfl ?_
  refine j_callV (c_b20 X hN hp (by omega) (by omega)) dX1_body_212 rfl mv_X1_31 (by first | exact X.1 | exact X.2.1 | exact X.2.2.2.1 | exact X.2.2.2.2.1 | exact X.2.2.2.2.2.2.1.o | exact X.2.2.2.2.2.2.1.c | exact X.2.2.2.2.2.2.1.i | exact X.2.2.2.2.2.2.1.p | exact X.2.2.2.2.2.2.1.d | exact X.2.2.2.2.2.2.2.1.o | exact X.2.2.2.2.2.2.2.2.1 | exact X.2.2.2.2.2.2.2.2.2.1 | exact X.2.2.2.2.2.2.2.2.2.2.2.1 | exact X.2.2.2.2.2.2.2.2.2.2.2.2.2.1 | exact X.2.2.2.2.2.2.2.2.2.2.2.2.2.2.1 | exact X.2.2.2.2.2.2.2.2.2.2.2.2.2.2.2) rfl ⟨(Nat.le_of_ble_eq_true rfl), (Nat.le_of_ble_eq_true rfl)⟩ ⟨(Nat.le_of_ble_eq_true rfl), (Nat.le_of_ble_eq_true rfl)⟩ (Nat.le_of_ble_eq_true rfl) ?_
  rw [show akH (akH σ (upd bo tr (nI 23)) (tr + 1)) (apB (upd bo tr (nI 23)) (tr + 1) [20]) (tr + 1 + 1) = akH σ (apB (upd bo tr (nI 23)) (tr + 1) [20]) (tr + 1 + 1) from akH2]
  have X := (X0.bods (apB (upd bo tr (nI 23)) (tr + 1) [20])).asks (tr + 1 + 1)
  refine j_aload_n dX1_body_215 rfl rfl ?_
  refine j_gets RX1 "SIZE_BODIES" 201 dX1_body_216 fl_X1_25 (fun _ _ h => h.2.1.1) ?_
  refine j_aload_n dX1_body_219 rfl rfl ?_
  refine j_iload_n dX1_body_220 rfl rfl ?_
  refine j_callV (c_kindOfS X.2.2.2.2.2.2.1 hN (by omega) hu hu2) dX1_body_221 rfl mv_X1_19 (by first | exact X.1 | exact X.2.1 | exact X.2.2.2.1 | exact X.2.2.2.2.1 | exact X.2.2.2.2.2.2.1.o | exact X.2.2.2.2.2.2.1.c | exact X.2.2.2.2.2.2.1.i | exact X.2.2.2.2.2.2.1.p | exact X.2.2.2.2.2.2.1.d | exact X.2.2.2.2.2.2.2.1.o | exact X.2.2.2.2.2.2.2.2.1 | exact X.2.2.2.2.2.2.2.2.2.1 | exact X.2.2.2.2.2.2.2.2.2.2.2.1 | exact X.2.2.2.2.2.2.2.2.2.2.2.2.2.1 | exact X.2.2.2.2.2.2.2.2.2.2.2.2.2.2.1 | exact X.2.2.2.2.2.2.2.2.2.2.2.2.2.2.2) rfl ⟨(Nat.le_of_ble_eq_true rfl), (Nat.le_of_ble_eq_true rfl)⟩ ⟨(Nat.le_of_ble_eq_true rfl), (Nat.le_of_ble_eq_true rfl)⟩ (Nat.le_of_ble_eq_true rfl) ?_
  refine j_tld 201 tb1 dX1_body_224 (fun _ _ h => h.2.1.2) hk (by decide) (nI 14) (by decide) ?_
  refine j_aload_n dX1_body_225 rfl rfl ?_
  refine j_iload_n dX1_body_226 rfl rfl ?_
  refine j_iload dX1_body_227 rfl ?_
  refine j_callV (c_b14 X hN hp (by omega) (by omega)) dX1_body_229 rfl mv_X1_31 (by first | exact X.1 | exact X.2.1 | exact X.2.2.2.1 | exact X.2.2.2.2.1 | exact X.2.2.2.2.2.2.1.o | exact X.2.2.2.2.2.2.1.c | exact X.2.2.2.2.2.2.1.i | exact X.2.2.2.2.2.2.1.p | exact X.2.2.2.2.2.2.1.d | exact X.2.2.2.2.2.2.2.1.o | exact X.2.2.2.2.2.2.2.2.1 | exact X.2.2.2.2.2.2.2.2.2.1 | exact X.2.2.2.2.2.2.2.2.2.2.2.1 | exact X.2.2.2.2.2.2.2.2.2.2.2.2.2.1 | exact X.2.2.2.2.2.2.2.2.2.2.2.2.2.2.1 | exact X.2.2.2.2.2.2.2.2.2.2.2.2.2.2.2) rfl ⟨(Nat.le_of_ble_eq_true rfl), (Nat.le_of_ble_eq_true rfl)⟩ ⟨(Nat.le_of_ble_eq_true rfl), (Nat.le_of_ble_eq_true rfl)⟩ (Nat.le_of_ble_eq_true rfl) ?_
  rw [show akH (akH σ (apB (upd bo tr (nI 23)) (tr + 1) [20]) (tr + 1 + 1)) (apB (apB (upd bo tr (nI 23)) (tr + 1) [20]) (tr + 1 + 1) [14, 13, 10]) (tr + 1 + 1 + 3) = akH σ (apB (apB (upd bo tr (nI 23)) (tr + 1) [20]) (tr + 1 + 1) [14, 13, 10]) (tr + 1 + 1 + 3) from akH2]
  refine j_isub dX1_body_232 ?_
  exact j_iret rfl dX1_body_233 rfl rfl (Nat.le_of_ble_eq_true rfl) (Nat.le_of_ble_eq_true rfl)
theorem c_b12 (X : XR σ lf fd rl rn ri tp rd dd d df nx kp da di tr bo ne) {p dp : Nat} (hN : sN d ≤ 7) (hp : p < sN d) (hu : 1 ≤ sU d) (hu2 : sU d ≤ 20) (hk : kindI (sD d) (sF d) (sN d) (sU d) p = nI 3) (hd : dp + 5 < 8) (ht : tr + 7 ≤ 16) : Ct G yX1_body cX1_body 6 (some .int) 7 0 0 z σ [.ref 168, .int (nI 12), .ref 25, .int (nI p), .int (nI dp)] (some (.int (-(sC d p + (nI 2 * (nI p + dsum (sD d) (sN d) p - nI 1000)))))) z (akH σ (apB bo tr [12, 11, 10, 24, 22, 21, 20]) (tr + 7)) := by
  refine Ct.ofJ RX1 rfl [some (.ref 168), some (.int (nI 12)), some (.ref 25), some (.int (nI p)), some (.int (nI dp)), none] rfl (by decide) (by simp [Value.category]) ?_
  refine j_iload dX1_body_0 rfl ?_
  refine j_bipush (nI 8) dX1_body_2 rfl ?_
  refine j_icmp_ltN 9 dX1_body_4 (by decide) (by omega) (by omega) (fun b4 => ?_) (fun b4 => by exfalso; omega)
  refine j_aload_n dX1_body_9 rfl rfl ?_
  refine j_iload_n dX1_body_10 rfl rfl ?_
  refine j_callV (c_begins X (nI 12) (by omega)) dX1_body_11 rfl mv_X1_35 (by first | exact X.1 | exact X.2.1 | exact X.2.2.2.1 | exact X.2.2.2.2.1 | exact X.2.2.2.2.2.2.1.o | exact X.2.2.2.2.2.2.1.c | exact X.2.2.2.2.2.2.1.i | exact X.2.2.2.2.2.2.1.p | exact X.2.2.2.2.2.2.1.d | exact X.2.2.2.2.2.2.2.1.o | exact X.2.2.2.2.2.2.2.2.1 | exact X.2.2.2.2.2.2.2.2.2.1 | exact X.2.2.2.2.2.2.2.2.2.2.2.1 | exact X.2.2.2.2.2.2.2.2.2.2.2.2.2.1 | exact X.2.2.2.2.2.2.2.2.2.2.2.2.2.2.1 | exact X.2.2.2.2.2.2.2.2.2.2.2.2.2.2.2) rfl ⟨(Nat.le_of_ble_eq_true rfl), (Nat.le_of_ble_eq_true rfl)⟩ ⟨(Nat.le_of_ble_eq_true rfl), (Nat.le_of_ble_eq_true rfl)⟩ (Nat.le_of_ble_eq_true rfl) ?_
  have X := (X.bods (upd bo tr (nI 12))).asks (tr + 1)
  refine j_iload dX1_body_14 rfl ?_
  refine j_iconst (nI 1) dX1_body_16 rfl ?_
  first | refine j_iaddN dX1_body_17 ?_ | refine j_iadd dX1_body_17 ?_
  refine j_istore dX1_body_18 (Nat.le_of_ble_eq_true rfl) rfl ?_
  refine j_iload_n dX1_body_20 rfl rfl ?_
  refine j_tabK 12 132 dX1_body_21 rfl (by decide) (by decide) (by decide) rfl (by decide) ?_
  refine j_aload_n dX1_body_132 rfl rfl ?_
  refine j_bipush (nI 11) dX1_body_133 rfl ?_
  refine j_aload_n dX1_body_135 rfl rfl ?_
  refine j_iload_n dX1_body_136 rfl rfl ?_
  refine j_iload dX1_body_137 rfl ?_
  refine j_callV (c_b11_3 X hN hp hu hu2 hk (by omega) (by omega)) dX1_body_139 rfl mv_X1_31 (by first | exact X.1 | exact X.2.1 | exact X.2.2.2.1 | exact X.2.2.2.2.1 | exact X.2.2.2.2.2.2.1.o | exact X.2.2.2.2.2.2.1.c | exact X.2.2.2.2.2.2.1.i | exact X.2.2.2.2.2.2.1.p | exact X.2.2.2.2.2.2.1.d | exact X.2.2.2.2.2.2.2.1.o | exact X.2.2.2.2.2.2.2.2.1 | exact X.2.2.2.2.2.2.2.2.2.1 | exact X.2.2.2.2.2.2.2.2.2.2.2.1 | exact X.2.2.2.2.2.2.2.2.2.2.2.2.2.1 | exact X.2.2.2.2.2.2.2.2.2.2.2.2.2.2.1 | exact X.2.2.2.2.2.2.2.2.2.2.2.2.2.2.2) rfl ⟨(Nat.le_of_ble_eq_true rfl), (Nat.le_of_ble_eq_true rfl)⟩ ⟨(Nat.le_of_ble_eq_true rfl), (Nat.le_of_ble_eq_true rfl)⟩ (Nat.le_of_ble_eq_true rfl) ?_
  rw [show akH (akH σ (upd bo tr (nI 12)) (tr + 1)) (apB (upd bo tr (nI 12)) (tr + 1) [11, 10, 24, 22, 21, 20]) (tr + 1 + 6) = akH σ (apB (upd bo tr (nI 12)) (tr + 1) [11, 10, 24, 22, 21, 20]) (tr + 1 + 6) from akH2]
  refine j_ineg dX1_body_142 ?_
  exact j_iret rfl dX1_body_143 rfl rfl (Nat.le_of_ble_eq_true rfl) (Nat.le_of_ble_eq_true rfl)
theorem x_ask_bad (X : XR σ lf fd rl rn ri tp rd dd d df nx kp da di tr bo ne) (p w : Int32) (h : ¬ npI p (sN d) = 0 ∨ w < 0 ∨ nI 1 < w) : Ct G yX5_ask cX5_ask 3 (some .int) 9 0 0 z σ [.ref 0, .int p, .int w] (some (.int (-1000001))) z σ := by
  refine Ct.ofJ RX5 rfl [some (.ref 0), some (.int p), some (.int w)] rfl (by decide) Nat.le.refl ?_
  refine j_aload_n dX5_ask_0 rfl rfl ?_
  refine j_iload_n dX5_ask_1 rfl rfl ?_
  refine j_callV (c_isNoPerson X p) dX5_ask_2 rfl mv_X5_155 (by first | exact X.1 | exact X.2.1 | exact X.2.2.2.1 | exact X.2.2.2.2.1 | exact X.2.2.2.2.2.2.1.o | exact X.2.2.2.2.2.2.1.c | exact X.2.2.2.2.2.2.1.i | exact X.2.2.2.2.2.2.1.p | exact X.2.2.2.2.2.2.1.d | exact X.2.2.2.2.2.2.2.1.o | exact X.2.2.2.2.2.2.2.2.1 | exact X.2.2.2.2.2.2.2.2.2.1 | exact X.2.2.2.2.2.2.2.2.2.2.2.1 | exact X.2.2.2.2.2.2.2.2.2.2.2.2.2.1 | exact X.2.2.2.2.2.2.2.2.2.2.2.2.2.2.1 | exact X.2.2.2.2.2.2.2.2.2.2.2.2.2.2.2) rfl ⟨(Nat.le_of_ble_eq_true rfl), (Nat.le_of_ble_eq_true rfl)⟩ ⟨(Nat.le_of_ble_eq_true rfl), (Nat.le_of_ble_eq_true rfl)⟩ (Nat.le_of_ble_eq_true rfl) ?_
  refine j_if_ne 17 dX5_ask_5 (by decide) (fun b5 => ?_) (fun b5 => ?_)
  · refine j_ldc (-1000001) dX5_ask_17 kc_X5_59 ?_
    exact j_iret rfl dX5_ask_19 rfl rfl (Nat.le_of_ble_eq_true rfl) (Nat.le_of_ble_eq_true rfl)
  · refine j_iload_n dX5_ask_8 rfl rfl ?_
    refine j_if_lt 17 dX5_ask_9 (by decide) (fun b9 => ?_) (fun b9 => ?_)
    · refine j_ldc (-1000001) dX5_ask_17 kc_X5_59 ?_
      exact j_iret rfl dX5_ask_19 rfl rfl (Nat.le_of_ble_eq_true rfl) (Nat.le_of_ble_eq_true rfl)
    · refine j_iload_n dX5_ask_12 rfl rfl ?_
      refine j_iconst (nI 1) dX5_ask_13 rfl ?_
      refine j_icmp_le 20 dX5_ask_14 (by decide) (fun b14 => ?_) (fun b14 => ?_)
      · exfalso
        rcases h with h | h | h
        · exact h b5
        · exact b9 h
        · exact absurd b14 (Int32.not_le.mpr h)
      · refine j_ldc (-1000001) dX5_ask_17 kc_X5_59 ?_
        exact j_iret rfl dX5_ask_19 rfl rfl (Nat.le_of_ble_eq_true rfl) (Nat.le_of_ble_eq_true rfl)
theorem c_answerOf_1_0 (X : XR σ lf fd rl rn ri tp rd dd d df nx kp da di tr bo ne) {p : Nat} (hN : sN d ≤ 7) (hp : p < sN d) (hu : 1 ≤ sU d) (hu2 : sU d ≤ 20) (hk : kindI (sD d) (sF d) (sN d) (sU d) p = nI 1) : Ct G yX1_answerOf cX1_answerOf 5 (some .int) 8 0 0 z σ [.ref 168, .ref 25, .int (nI p), .int (nI 0)] (some (.int (sC d p + (nI p + dsum (sD d) (sN d) p)))) z (akH σ (apB bo 0 [11, 10, 21, 20]) 4) := by
  refine Ct.ofJ RX1 rfl [some (.ref 168), some (.ref 25), some (.int (nI p)), some (.int (nI 0)), none] rfl (by decide) (by simp [Value.category]) ?_
  refine j_aload_n dX1_answerOf_0 rfl rfl ?_
  refine j_iconst (nI 0) dX1_answerOf_1 rfl ?_
  refine j_putf dX1_answerOf_2 1 1 rfl (Nat.le_of_ble_eq_true rfl) fl_X1_15 in_1 tyX1 tyX1_ok nmX1 rfl rfl (by first | exact X.1 | exact X.2.1 | exact X.2.2.2.1 | exact X.2.2.2.2.1 | exact X.2.2.2.2.2.2.1.o | exact X.2.2.2.2.2.2.1.c | exact X.2.2.2.2.2.2.1.i | exact X.2.2.2.2.2.2.1.p | exact X.2.2.2.2.2.2.1.d | exact X.2.2.2.2.2.2.2.1.o | exact X.2.2.2.2.2.2.2.2.1 | exact X.2.2.2.2.2.2.2.2.2.1 | exact X.2.2.2.2.2.2.2.2.2.2.2.1 | exact X.2.2.2.2.2.2.2.2.2.2.2.2.2.1 | exact X.2.2.2.2.2.2.2.2.2.2.2.2.2.2.1 | exact X.2.2.2.2.2.2.2.2.2.2.2.2.2.2.2) (Nat.le_of_ble_eq_true rfl) _ (show _ = ups σ 168 (xK 0) from rfl) ?_
  have X := X.asks 0
  refine j_aload_n dX1_answerOf_5 rfl rfl ?_
  refine j_iload_n dX1_answerOf_6 rfl rfl ?_
  refine j_callV (c_kindOfS X.2.2.2.2.2.2.1 hN (by omega) hu hu2) dX1_answerOf_7 rfl mv_X1_19 (by first | exact X.1 | exact X.2.1 | exact X.2.2.2.1 | exact X.2.2.2.2.1 | exact X.2.2.2.2.2.2.1.o | exact X.2.2.2.2.2.2.1.c | exact X.2.2.2.2.2.2.1.i | exact X.2.2.2.2.2.2.1.p | exact X.2.2.2.2.2.2.1.d | exact X.2.2.2.2.2.2.2.1.o | exact X.2.2.2.2.2.2.2.2.1 | exact X.2.2.2.2.2.2.2.2.2.1 | exact X.2.2.2.2.2.2.2.2.2.2.2.1 | exact X.2.2.2.2.2.2.2.2.2.2.2.2.2.1 | exact X.2.2.2.2.2.2.2.2.2.2.2.2.2.2.1 | exact X.2.2.2.2.2.2.2.2.2.2.2.2.2.2.2) rfl ⟨(Nat.le_of_ble_eq_true rfl), (Nat.le_of_ble_eq_true rfl)⟩ ⟨(Nat.le_of_ble_eq_true rfl), (Nat.le_of_ble_eq_true rfl)⟩ (Nat.le_of_ble_eq_true rfl) ?_
  refine j_istore dX1_answerOf_10 (Nat.le_of_ble_eq_true rfl) rfl ?_
  refine j_aload_n dX1_answerOf_12 rfl rfl ?_
  refine j_iload_n dX1_answerOf_13 rfl rfl ?_
  refine j_if_ne 26 dX1_answerOf_14 (by decide) (fun b14 => by exact absurd rfl b14) (fun b14 => ?_)
  refine j_gets RX1 "SIZE_BODIES" 201 dX1_answerOf_17 fl_X1_25 (fun _ _ h => h.2.1.1) ?_
  refine j_iload dX1_answerOf_20 rfl ?_
  refine j_tld 201 tb1 dX1_answerOf_22 (fun _ _ h => h.2.1.2) hk (by decide) (nI 11) (by decide) ?_
  refine j_goto 32 dX1_answerOf_23 (by decide) ?_
  refine j_aload_n dX1_answerOf_32 rfl rfl ?_
  refine j_iload_n dX1_answerOf_33 rfl rfl ?_
  refine j_iconst (nI 0) dX1_answerOf_34 rfl ?_
  refine j_callV (c_b11_1 X hN hp hu hu2 hk (by decide) (by decide)) dX1_answerOf_35 rfl mv_X1_31 (by first | exact X.1 | exact X.2.1 | exact X.2.2.2.1 | exact X.2.2.2.2.1 | exact X.2.2.2.2.2.2.1.o | exact X.2.2.2.2.2.2.1.c | exact X.2.2.2.2.2.2.1.i | exact X.2.2.2.2.2.2.1.p | exact X.2.2.2.2.2.2.1.d | exact X.2.2.2.2.2.2.2.1.o | exact X.2.2.2.2.2.2.2.2.1 | exact X.2.2.2.2.2.2.2.2.2.1 | exact X.2.2.2.2.2.2.2.2.2.2.2.1 | exact X.2.2.2.2.2.2.2.2.2.2.2.2.2.1 | exact X.2.2.2.2.2.2.2.2.2.2.2.2.2.2.1 | exact X.2.2.2.2.2.2.2.2.2.2.2.2.2.2.2) rfl ⟨(Nat.le_of_ble_eq_true rfl), (Nat.le_of_ble_eq_true rfl)⟩ ⟨(Nat.le_of_ble_eq_true rfl), (Nat.le_of_ble_eq_true rfl)⟩ (Nat.le_of_ble_eq_true rfl) ?_
  rw [show akH (ups σ 168 (xK 0)) (apB bo 0 [11, 10, 21, 20]) (0 + 4) = akH σ (apB bo 0 [11, 10, 21, 20]) 4 from ak0]
  exact j_iret rfl dX1_answerOf_38 rfl rfl (Nat.le_of_ble_eq_true rfl) (Nat.le_of_ble_eq_true rfl)
theorem x_ask_1_0 (X : XR σ lf fd rl rn ri tp rd dd d df nx kp da di tr bo ne) {p : Nat} (hN : sN d ≤ 7) (hp : p < sN d) (hu : 1 ≤ sU d) (hu2 : sU d ≤ 20) (hk : kindI (sD d) (sF d) (sN d) (sU d) p = nI 1) : Ct G yX5_ask cX5_ask 3 (some .int) 9 0 0 z σ [.ref 0, .int (nI p), .int (nI 0)] (some (.int (sC d p + (nI p + dsum (sD d) (sN d) p)))) z (akH σ (apB bo 0 [11, 10, 21, 20]) 4) := by
  refine Ct.ofJ RX5 rfl [some (.ref 0), some (.int (nI p)), some (.int (nI 0))] rfl (by decide) Nat.le.refl ?_
  refine j_aload_n dX5_ask_0 rfl rfl ?_
  refine j_iload_n dX5_ask_1 rfl rfl ?_
  refine j_callV (c_isNoPerson X (nI p)) dX5_ask_2 rfl mv_X5_155 (by first | exact X.1 | exact X.2.1 | exact X.2.2.2.1 | exact X.2.2.2.2.1 | exact X.2.2.2.2.2.2.1.o | exact X.2.2.2.2.2.2.1.c | exact X.2.2.2.2.2.2.1.i | exact X.2.2.2.2.2.2.1.p | exact X.2.2.2.2.2.2.1.d | exact X.2.2.2.2.2.2.2.1.o | exact X.2.2.2.2.2.2.2.2.1 | exact X.2.2.2.2.2.2.2.2.2.1 | exact X.2.2.2.2.2.2.2.2.2.2.2.1 | exact X.2.2.2.2.2.2.2.2.2.2.2.2.2.1 | exact X.2.2.2.2.2.2.2.2.2.2.2.2.2.2.1 | exact X.2.2.2.2.2.2.2.2.2.2.2.2.2.2.2) rfl ⟨(Nat.le_of_ble_eq_true rfl), (Nat.le_of_ble_eq_true rfl)⟩ ⟨(Nat.le_of_ble_eq_true rfl), (Nat.le_of_ble_eq_true rfl)⟩ (Nat.le_of_ble_eq_true rfl) ?_
  refine j_top (nI 0) (npI_k hp hN) ?_
  refine j_if_ne 17 dX5_ask_5 (by decide) (fun h => absurd rfl h) (fun _ => ?_)
  refine j_iload_n dX5_ask_8 rfl rfl ?_
  refine j_if_lt 17 dX5_ask_9 (by decide) (fun b9 => by exact absurd b9 (by decide)) (fun b9 => ?_)
  refine j_iload_n dX5_ask_12 rfl rfl ?_
  refine j_iconst (nI 1) dX5_ask_13 rfl ?_
  refine j_icmp_le 20 dX5_ask_14 (by decide) (fun b14 => ?_) (fun b14 => by exact absurd (by decide) b14)
  refine j_aload_n dX5_ask_20 rfl rfl ?_
  refine j_getf dX5_ask_21 5 8 rfl (Nat.le_of_ble_eq_true rfl) fl_X5_47 in_5 (by first | exact X.1 | exact X.2.1 | exact X.2.2.2.1 | exact X.2.2.2.2.1 | exact X.2.2.2.2.2.2.1.o | exact X.2.2.2.2.2.2.1.c | exact X.2.2.2.2.2.2.1.i | exact X.2.2.2.2.2.2.1.p | exact X.2.2.2.2.2.2.1.d | exact X.2.2.2.2.2.2.2.1.o | exact X.2.2.2.2.2.2.2.2.1 | exact X.2.2.2.2.2.2.2.2.2.1 | exact X.2.2.2.2.2.2.2.2.2.2.2.1 | exact X.2.2.2.2.2.2.2.2.2.2.2.2.2.1 | exact X.2.2.2.2.2.2.2.2.2.2.2.2.2.2.1 | exact X.2.2.2.2.2.2.2.2.2.2.2.2.2.2.2) rfl ?_
  refine j_aload_n dX5_ask_24 rfl rfl ?_
  refine j_getf dX5_ask_25 5 4 rfl (Nat.le_of_ble_eq_true rfl) fl_X5_26 in_5 (by first | exact X.1 | exact X.2.1 | exact X.2.2.2.1 | exact X.2.2.2.2.1 | exact X.2.2.2.2.2.2.1.o | exact X.2.2.2.2.2.2.1.c | exact X.2.2.2.2.2.2.1.i | exact X.2.2.2.2.2.2.1.p | exact X.2.2.2.2.2.2.1.d | exact X.2.2.2.2.2.2.2.1.o | exact X.2.2.2.2.2.2.2.2.1 | exact X.2.2.2.2.2.2.2.2.2.1 | exact X.2.2.2.2.2.2.2.2.2.2.2.1 | exact X.2.2.2.2.2.2.2.2.2.2.2.2.2.1 | exact X.2.2.2.2.2.2.2.2.2.2.2.2.2.2.1 | exact X.2.2.2.2.2.2.2.2.2.2.2.2.2.2.2) rfl ?_
  refine j_iload_n dX5_ask_28 rfl rfl ?_
  refine j_iload_n dX5_ask_29 rfl rfl ?_
  refine j_callV (c_answerOf_1_0 X hN hp hu hu2 hk) dX5_ask_30 rfl mv_X5_236 (by first | exact X.1 | exact X.2.1 | exact X.2.2.2.1 | exact X.2.2.2.2.1 | exact X.2.2.2.2.2.2.1.o | exact X.2.2.2.2.2.2.1.c | exact X.2.2.2.2.2.2.1.i | exact X.2.2.2.2.2.2.1.p | exact X.2.2.2.2.2.2.1.d | exact X.2.2.2.2.2.2.2.1.o | exact X.2.2.2.2.2.2.2.2.1 | exact X.2.2.2.2.2.2.2.2.2.1 | exact X.2.2.2.2.2.2.2.2.2.2.2.1 | exact X.2.2.2.2.2.2.2.2.2.2.2.2.2.1 | exact X.2.2.2.2.2.2.2.2.2.2.2.2.2.2.1 | exact X.2.2.2.2.2.2.2.2.2.2.2.2.2.2.2) rfl ⟨(Nat.le_of_ble_eq_true rfl), (Nat.le_of_ble_eq_true rfl)⟩ ⟨(Nat.le_of_ble_eq_true rfl), (Nat.le_of_ble_eq_true rfl)⟩ (Nat.le_of_ble_eq_true rfl) ?_
  exact j_iret rfl dX5_ask_33 rfl rfl (Nat.le_of_ble_eq_true rfl) (Nat.le_of_ble_eq_true rfl)
theorem c_answerOf_2_0 (X : XR σ lf fd rl rn ri tp rd dd d df nx kp da di tr bo ne) {p : Nat} (hN : sN d ≤ 7) (hp : p < sN d) (hu : 1 ≤ sU d) (hu2 : sU d ≤ 20) (hk : kindI (sD d) (sF d) (sN d) (sU d) p = nI 2) : Ct G yX1_answerOf cX1_answerOf 5 (some .int) 8 0 0 z σ [.ref 168, .ref 25, .int (nI p), .int (nI 0)] (some (.int (sC d p + (nI p + dsum (sD d) (sN d) p - nI 1000)))) z (akH σ (apB bo 0 [11, 10, 22, 21, 20]) 5) := by
  refine Ct.ofJ RX1 rfl [some (.ref 168), some (.ref 25), some (.int (nI p)), some (.int (nI 0)), none] rfl (by decide) (by simp [Value.category]) ?_
  refine j_aload_n dX1_answerOf_0 rfl rfl ?_
  refine j_iconst (nI 0) dX1_answerOf_1 rfl ?_
  refine j_putf dX1_answerOf_2 1 1 rfl (Nat.le_of_ble_eq_true rfl) fl_X1_15 in_1 tyX1 tyX1_ok nmX1 rfl rfl (by first | exact X.1 | exact X.2.1 | exact X.2.2.2.1 | exact X.2.2.2.2.1 | exact X.2.2.2.2.2.2.1.o | exact X.2.2.2.2.2.2.1.c | exact X.2.2.2.2.2.2.1.i | exact X.2.2.2.2.2.2.1.p | exact X.2.2.2.2.2.2.1.d | exact X.2.2.2.2.2.2.2.1.o | exact X.2.2.2.2.2.2.2.2.1 | exact X.2.2.2.2.2.2.2.2.2.1 | exact X.2.2.2.2.2.2.2.2.2.2.2.1 | exact X.2.2.2.2.2.2.2.2.2.2.2.2.2.1 | exact X.2.2.2.2.2.2.2.2.2.2.2.2.2.2.1 | exact X.2.2.2.2.2.2.2.2.2.2.2.2.2.2.2) (Nat.le_of_ble_eq_true rfl) _ (show _ = ups σ 168 (xK 0) from rfl) ?_
  have X := X.asks 0
  refine j_aload_n dX1_answerOf_5 rfl rfl ?_
  refine j_iload_n dX1_answerOf_6 rfl rfl ?_
  refine j_callV (c_kindOfS X.2.2.2.2.2.2.1 hN (by omega) hu hu2) dX1_answerOf_7 rfl mv_X1_19 (by first | exact X.1 | exact X.2.1 | exact X.2.2.2.1 | exact X.2.2.2.2.1 | exact X.2.2.2.2.2.2.1.o | exact X.2.2.2.2.2.2.1.c | exact X.2.2.2.2.2.2.1.i | exact X.2.2.2.2.2.2.1.p | exact X.2.2.2.2.2.2.1.d | exact X.2.2.2.2.2.2.2.1.o | exact X.2.2.2.2.2.2.2.2.1 | exact X.2.2.2.2.2.2.2.2.2.1 | exact X.2.2.2.2.2.2.2.2.2.2.2.1 | exact X.2.2.2.2.2.2.2.2.2.2.2.2.2.1 | exact X.2.2.2.2.2.2.2.2.2.2.2.2.2.2.1 | exact X.2.2.2.2.2.2.2.2.2.2.2.2.2.2.2) rfl ⟨(Nat.le_of_ble_eq_true rfl), (Nat.le_of_ble_eq_true rfl)⟩ ⟨(Nat.le_of_ble_eq_true rfl), (Nat.le_of_ble_eq_true rfl)⟩ (Nat.le_of_ble_eq_true rfl) ?_
  refine j_istore dX1_answerOf_10 (Nat.le_of_ble_eq_true rfl) rfl ?_
  refine j_aload_n dX1_answerOf_12 rfl rfl ?_
  refine j_iload_n dX1_answerOf_13 rfl rfl ?_
  refine j_if_ne 26 dX1_answerOf_14 (by decide) (fun b14 => by exact absurd rfl b14) (fun b14 => ?_)
  refine j_gets RX1 "SIZE_BODIES" 201 dX1_answerOf_17 fl_X1_25 (fun _ _ h => h.2.1.1) ?_
  refine j_iload dX1_answerOf_20 rfl ?_
  refine j_tld 201 tb1 dX1_answerOf_22 (fun _ _ h => h.2.1.2) hk (by decide) (nI 11) (by decide) ?_
  refine j_goto 32 dX1_answerOf_23 (by decide) ?_
  refine j_aload_n dX1_answerOf_32 rfl rfl ?_
  refine j_iload_n dX1_answerOf_33 rfl rfl ?_
  refine j_iconst (nI 0) dX1_answerOf_34 rfl ?_
  refine j_callV (c_b11_2 X hN hp hu hu2 hk (by decide) (by decide)) dX1_answerOf_35 rfl mv_X1_31 (by first | exact X.1 | exact X.2.1 | exact X.2.2.2.1 | exact X.2.2.2.2.1 | exact X.2.2.2.2.2.2.1.o | exact X.2.2.2.2.2.2.1.c | exact X.2.2.2.2.2.2.1.i | exact X.2.2.2.2.2.2.1.p | exact X.2.2.2.2.2.2.1.d | exact X.2.2.2.2.2.2.2.1.o | exact X.2.2.2.2.2.2.2.2.1 | exact X.2.2.2.2.2.2.2.2.2.1 | exact X.2.2.2.2.2.2.2.2.2.2.2.1 | exact X.2.2.2.2.2.2.2.2.2.2.2.2.2.1 | exact X.2.2.2.2.2.2.2.2.2.2.2.2.2.2.1 | exact X.2.2.2.2.2.2.2.2.2.2.2.2.2.2.2) rfl ⟨(Nat.le_of_ble_eq_true rfl), (Nat.le_of_ble_eq_true rfl)⟩ ⟨(Nat.le_of_ble_eq_true rfl), (Nat.le_of_ble_eq_true rfl)⟩ (Nat.le_of_ble_eq_true rfl) ?_
  rw [show akH (ups σ 168 (xK 0)) (apB bo 0 [11, 10, 22, 21, 20]) (0 + 5) = akH σ (apB bo 0 [11, 10, 22, 21, 20]) 5 from ak0]
  exact j_iret rfl dX1_answerOf_38 rfl rfl (Nat.le_of_ble_eq_true rfl) (Nat.le_of_ble_eq_true rfl)
theorem x_ask_2_0 (X : XR σ lf fd rl rn ri tp rd dd d df nx kp da di tr bo ne) {p : Nat} (hN : sN d ≤ 7) (hp : p < sN d) (hu : 1 ≤ sU d) (hu2 : sU d ≤ 20) (hk : kindI (sD d) (sF d) (sN d) (sU d) p = nI 2) : Ct G yX5_ask cX5_ask 3 (some .int) 9 0 0 z σ [.ref 0, .int (nI p), .int (nI 0)] (some (.int (sC d p + (nI p + dsum (sD d) (sN d) p - nI 1000)))) z (akH σ (apB bo 0 [11, 10, 22, 21, 20]) 5) := by
  refine Ct.ofJ RX5 rfl [some (.ref 0), some (.int (nI p)), some (.int (nI 0))] rfl (by decide) Nat.le.refl ?_
  refine j_aload_n dX5_ask_0 rfl rfl ?_
  refine j_iload_n dX5_ask_1 rfl rfl ?_
  refine j_callV (c_isNoPerson X (nI p)) dX5_ask_2 rfl mv_X5_155 (by first | exact X.1 | exact X.2.1 | exact X.2.2.2.1 | exact X.2.2.2.2.1 | exact X.2.2.2.2.2.2.1.o | exact X.2.2.2.2.2.2.1.c | exact X.2.2.2.2.2.2.1.i | exact X.2.2.2.2.2.2.1.p | exact X.2.2.2.2.2.2.1.d | exact X.2.2.2.2.2.2.2.1.o | exact X.2.2.2.2.2.2.2.2.1 | exact X.2.2.2.2.2.2.2.2.2.1 | exact X.2.2.2.2.2.2.2.2.2.2.2.1 | exact X.2.2.2.2.2.2.2.2.2.2.2.2.2.1 | exact X.2.2.2.2.2.2.2.2.2.2.2.2.2.2.1 | exact X.2.2.2.2.2.2.2.2.2.2.2.2.2.2.2) rfl ⟨(Nat.le_of_ble_eq_true rfl), (Nat.le_of_ble_eq_true rfl)⟩ ⟨(Nat.le_of_ble_eq_true rfl), (Nat.le_of_ble_eq_true rfl)⟩ (Nat.le_of_ble_eq_true rfl) ?_
  refine j_top (nI 0) (npI_k hp hN) ?_
  refine j_if_ne 17 dX5_ask_5 (by decide) (fun h => absurd rfl h) (fun _ => ?_)
  refine j_iload_n dX5_ask_8 rfl rfl ?_
  refine j_if_lt 17 dX5_ask_9 (by decide) (fun b9 => by exact absurd b9 (by decide)) (fun b9 => ?_)
  refine j_iload_n dX5_ask_12 rfl rfl ?_
  refine j_iconst (nI 1) dX5_ask_13 rfl ?_
  refine j_icmp_le 20 dX5_ask_14 (by decide) (fun b14 => ?_) (fun b14 => by exact absurd (by decide) b14)
  refine j_aload_n dX5_ask_20 rfl rfl ?_
  refine j_getf dX5_ask_21 5 8 rfl (Nat.le_of_ble_eq_true rfl) fl_X5_47 in_5 (by first | exact X.1 | exact X.2.1 | exact X.2.2.2.1 | exact X.2.2.2.2.1 | exact X.2.2.2.2.2.2.1.o | exact X.2.2.2.2.2.2.1.c | exact X.2.2.2.2.2.2.1.i | exact X.2.2.2.2.2.2.1.p | exact X.2.2.2.2.2.2.1.d | exact X.2.2.2.2.2.2.2.1.o | exact X.2.2.2.2.2.2.2.2.1 | exact X.2.2.2.2.2.2.2.2.2.1 | exact X.2.2.2.2.2.2.2.2.2.2.2.1 | exact X.2.2.2.2.2.2.2.2.2.2.2.2.2.1 | exact X.2.2.2.2.2.2.2.2.2.2.2.2.2.2.1 | exact X.2.2.2.2.2.2.2.2.2.2.2.2.2.2.2) rfl ?_
  refine j_aload_n dX5_ask_24 rfl rfl ?_
  refine j_getf dX5_ask_25 5 4 rfl (Nat.le_of_ble_eq_true rfl) fl_X5_26 in_5 (by first | exact X.1 | exact X.2.1 | exact X.2.2.2.1 | exact X.2.2.2.2.1 | exact X.2.2.2.2.2.2.1.o | exact X.2.2.2.2.2.2.1.c | exact X.2.2.2.2.2.2.1.i | exact X.2.2.2.2.2.2.1.p | exact X.2.2.2.2.2.2.1.d | exact X.2.2.2.2.2.2.2.1.o | exact X.2.2.2.2.2.2.2.2.1 | exact X.2.2.2.2.2.2.2.2.2.1 | exact X.2.2.2.2.2.2.2.2.2.2.2.1 | exact X.2.2.2.2.2.2.2.2.2.2.2.2.2.1 | exact X.2.2.2.2.2.2.2.2.2.2.2.2.2.2.1 | exact X.2.2.2.2.2.2.2.2.2.2.2.2.2.2.2) rfl ?_
  refine j_iload_n dX5_ask_28 rfl rfl ?_
  refine j_iload_n dX5_ask_29 rfl rfl ?_
  refine j_callV (c_answerOf_2_0 X hN hp hu hu2 hk) dX5_ask_30 rfl mv_X5_236 (by first | exact X.1 | exact X.2.1 | exact X.2.2.2.1 | exact X.2.2.2.2.1 | exact X.2.2.2.2.2.2.1.o | exact X.2.2.2.2.2.2.1.c | exact X.2.2.2.2.2.2.1.i | exact X.2.2.2.2.2.2.1.p | exact X.2.2.2.2.2.2.1.d | exact X.2.2.2.2.2.2.2.1.o | exact X.2.2.2.2.2.2.2.2.1 | exact X.2.2.2.2.2.2.2.2.2.1 | exact X.2.2.2.2.2.2.2.2.2.2.2.1 | exact X.2.2.2.2.2.2.2.2.2.2.2.2.2.1 | exact X.2.2.2.2.2.2.2.2.2.2.2.2.2.2.1 | exact X.2.2.2.2.2.2.2.2.2.2.2.2.2.2.2) rfl ⟨(Nat.le_of_ble_eq_true rfl), (Nat.le_of_ble_eq_true rfl)⟩ ⟨(Nat.le_of_ble_eq_true rfl), (Nat.le_of_ble_eq_true rfl)⟩ (Nat.le_of_ble_eq_true rfl) ?_
  exact j_iret rfl dX5_ask_33 rfl rfl (Nat.le_of_ble_eq_true rfl) (Nat.le_of_ble_eq_true rfl)
theorem c_answerOf_3_0 (X : XR σ lf fd rl rn ri tp rd dd d df nx kp da di tr bo ne) {p : Nat} (hN : sN d ≤ 7) (hp : p < sN d) (hu : 1 ≤ sU d) (hu2 : sU d ≤ 20) (hk : kindI (sD d) (sF d) (sN d) (sU d) p = nI 3) : Ct G yX1_answerOf cX1_answerOf 5 (some .int) 8 0 0 z σ [.ref 168, .ref 25, .int (nI p), .int (nI 0)] (some (.int (-(sC d p + (nI 2 * (nI p + dsum (sD d) (sN d) p - nI 1000)))))) z (akH σ (apB bo 0 [12, 11, 10, 24, 22, 21, 20]) 7) := by
  refine Ct.ofJ RX1 rfl [some (.ref 168), some (.ref 25), some (.int (nI p)), some (.int (nI 0)), none] rfl (by decide) (by simp [Value.category]) ?_
  refine j_aload_n dX1_answerOf_0 rfl rfl ?_
  refine j_iconst (nI 0) dX1_answerOf_1 rfl ?_
  refine j_putf dX1_answerOf_2 1 1 rfl (Nat.le_of_ble_eq_true rfl) fl_X1_15 in_1 tyX1 tyX1_ok nmX1 rfl rfl (by first | exact X.1 | exact X.2.1 | exact X.2.2.2.1 | exact X.2.2.2.2.1 | exact X.2.2.2.2.2.2.1.o | exact X.2.2.2.2.2.2.1.c | exact X.2.2.2.2.2.2.1.i | exact X.2.2.2.2.2.2.1.p | exact X.2.2.2.2.2.2.1.d | exact X.2.2.2.2.2.2.2.1.o | exact X.2.2.2.2.2.2.2.2.1 | exact X.2.2.2.2.2.2.2.2.2.1 | exact X.2.2.2.2.2.2.2.2.2.2.2.1 | exact X.2.2.2.2.2.2.2.2.2.2.2.2.2.1 | exact X.2.2.2.2.2.2.2.2.2.2.2.2.2.2.1 | exact X.2.2.2.2.2.2.2.2.2.2.2.2.2.2.2) (Nat.le_of_ble_eq_true rfl) _ (show _ = ups σ 168 (xK 0) from rfl) ?_
  have X := X.asks 0
  refine j_aload_n dX1_answerOf_5 rfl rfl ?_
  refine j_iload_n dX1_answerOf_6 rfl rfl ?_
  refine j_callV (c_kindOfS X.2.2.2.2.2.2.1 hN (by omega) hu hu2) dX1_answerOf_7 rfl mv_X1_19 (by first | exact X.1 | exact X.2.1 | exact X.2.2.2.1 | exact X.2.2.2.2.1 | exact X.2.2.2.2.2.2.1.o | exact X.2.2.2.2.2.2.1.c | exact X.2.2.2.2.2.2.1.i | exact X.2.2.2.2.2.2.1.p | exact X.2.2.2.2.2.2.1.d | exact X.2.2.2.2.2.2.2.1.o | exact X.2.2.2.2.2.2.2.2.1 | exact X.2.2.2.2.2.2.2.2.2.1 | exact X.2.2.2.2.2.2.2.2.2.2.2.1 | exact X.2.2.2.2.2.2.2.2.2.2.2.2.2.1 | exact X.2.2.2.2.2.2.2.2.2.2.2.2.2.2.1 | exact X.2.2.2.2.2.2.2.2.2.2.2.2.2.2.2) rfl ⟨(Nat.le_of_ble_eq_true rfl), (Nat.le_of_ble_eq_true rfl)⟩ ⟨(Nat.le_of_ble_eq_true rfl), (Nat.le_of_ble_eq_true rfl)⟩ (Nat.le_of_ble_eq_true rfl) ?_
  refine j_istore dX1_answerOf_10 (Nat.le_of_ble_eq_true rfl) rfl ?_
  refine j_aload_n dX1_answerOf_12 rfl rfl ?_
  refine j_iload_n dX1_answerOf_13 rfl rfl ?_
  refine j_if_ne 26 dX1_answerOf_14 (by decide) (fun b14 => by exact absurd rfl b14) (fun b14 => ?_)
  refine j_gets RX1 "SIZE_BODIES" 201 dX1_answerOf_17 fl_X1_25 (fun _ _ h => h.2.1.1) ?_
  refine j_iload dX1_answerOf_20 rfl ?_
  refine j_tld 201 tb1 dX1_answerOf_22 (fun _ _ h => h.2.1.2) hk (by decide) (nI 12) (by decide) ?_
  refine j_goto 32 dX1_answerOf_23 (by decide) ?_
  refine j_aload_n dX1_answerOf_32 rfl rfl ?_
  refine j_iload_n dX1_answerOf_33 rfl rfl ?_
  refine j_iconst (nI 0) dX1_answerOf_34 rfl ?_
  refine j_callV (c_b12 X hN hp hu hu2 hk (by decide) (by decide)) dX1_answerOf_35 rfl mv_X1_31 (by first | exact X.1 | exact X.2.1 | exact X.2.2.2.1 | exact X.2.2.2.2.1 | exact X.2.2.2.2.2.2.1.o | exact X.2.2.2.2.2.2.1.c | exact X.2.2.2.2.2.2.1.i | exact X.2.2.2.2.2.2.1.p | exact X.2.2.2.2.2.2.1.d | exact X.2.2.2.2.2.2.2.1.o | exact X.2.2.2.2.2.2.2.2.1 | exact X.2.2.2.2.2.2.2.2.2.1 | exact X.2.2.2.2.2.2.2.2.2.2.2.1 | exact X.2.2.2.2.2.2.2.2.2.2.2.2.2.1 | exact X.2.2.2.2.2.2.2.2.2.2.2.2.2.2.1 | exact X.2.2.2.2.2.2.2.2.2.2.2.2.2.2.2) rfl ⟨(Nat.le_of_ble_eq_true rfl), (Nat.le_of_ble_eq_true rfl)⟩ ⟨(Nat.le_of_ble_eq_true rfl), (Nat.le_of_ble_eq_true rfl)⟩ (Nat.le_of_ble_eq_true rfl) ?_
  rw [show akH (ups σ 168 (xK 0)) (apB bo 0 [12, 11, 10, 24, 22, 21, 20]) (0 + 7) = akH σ (apB bo 0 [12, 11, 10, 24, 22, 21, 20]) 7 from ak0]
  exact j_iret rfl dX1_answerOf_38 rfl rfl (Nat.le_of_ble_eq_true rfl) (Nat.le_of_ble_eq_true rfl)
theorem x_ask_3_0 (X : XR σ lf fd rl rn ri tp rd dd d df nx kp da di tr bo ne) {p : Nat} (hN : sN d ≤ 7) (hp : p < sN d) (hu : 1 ≤ sU d) (hu2 : sU d ≤ 20) (hk : kindI (sD d) (sF d) (sN d) (sU d) p = nI 3) : Ct G yX5_ask cX5_ask 3 (some .int) 9 0 0 z σ [.ref 0, .int (nI p), .int (nI 0)] (some (.int (-(sC d p + (nI 2 * (nI p + dsum (sD d) (sN d) p - nI 1000)))))) z (akH σ (apB bo 0 [12, 11, 10, 24, 22, 21, 20]) 7) := by
  refine Ct.ofJ RX5 rfl [some (.ref 0), some (.int (nI p)), some (.int (nI 0))] rfl (by decide) Nat.le.refl ?_
  refine j_aload_n dX5_ask_0 rfl rfl ?_
  refine j_iload_n dX5_ask_1 rfl rfl ?_
  refine j_callV (c_isNoPerson X (nI p)) dX5_ask_2 rfl mv_X5_155 (by first | exact X.1 | exact X.2.1 | exact X.2.2.2.1 | exact X.2.2.2.2.1 | exact X.2.2.2.2.2.2.1.o | exact X.2.2.2.2.2.2.1.c | exact X.2.2.2.2.2.2.1.i | exact X.2.2.2.2.2.2.1.p | exact X.2.2.2.2.2.2.1.d | exact X.2.2.2.2.2.2.2.1.o | exact X.2.2.2.2.2.2.2.2.1 | exact X.2.2.2.2.2.2.2.2.2.1 | exact X.2.2.2.2.2.2.2.2.2.2.2.1 | exact X.2.2.2.2.2.2.2.2.2.2.2.2.2.1 | exact X.2.2.2.2.2.2.2.2.2.2.2.2.2.2.1 | exact X.2.2.2.2.2.2.2.2.2.2.2.2.2.2.2) rfl ⟨(Nat.le_of_ble_eq_true rfl), (Nat.le_of_ble_eq_true rfl)⟩ ⟨(Nat.le_of_ble_eq_true rfl), (Nat.le_of_ble_eq_true rfl)⟩ (Nat.le_of_ble_eq_true rfl) ?_
  refine j_top (nI 0) (npI_k hp hN) ?_
  refine j_if_ne 17 dX5_ask_5 (by decide) (fun h => absurd rfl h) (fun _ => ?_)
  refine j_iload_n dX5_ask_8 rfl rfl ?_
  refine j_if_lt 17 dX5_ask_9 (by decide) (fun b9 => by exact absurd b9 (by decide)) (fun b9 => ?_)
  refine j_iload_n dX5_ask_12 rfl rfl ?_
  refine j_iconst (nI 1) dX5_ask_13 rfl ?_
  refine j_icmp_le 20 dX5_ask_14 (by decide) (fun b14 => ?_) (fun b14 => by exact absurd (by decide) b14)
  refine j_aload_n dX5_ask_20 rfl rfl ?_
  refine j_getf dX5_ask_21 5 8 rfl (Nat.le_of_ble_eq_true rfl) fl_X5_47 in_5 (by first | exact X.1 | exact X.2.1 | exact X.2.2.2.1 | exact X.2.2.2.2.1 | exact X.2.2.2.2.2.2.1.o | exact X.2.2.2.2.2.2.1.c | exact X.2.2.2.2.2.2.1.i | exact X.2.2.2.2.2.2.1.p | exact X.2.2.2.2.2.2.1.d | exact X.2.2.2.2.2.2.2.1.o | exact X.2.2.2.2.2.2.2.2.1 | exact X.2.2.2.2.2.2.2.2.2.1 | exact X.2.2.2.2.2.2.2.2.2.2.2.1 | exact X.2.2.2.2.2.2.2.2.2.2.2.2.2.1 | exact X.2.2.2.2.2.2.2.2.2.2.2.2.2.2.1 | exact X.2.2.2.2.2.2.2.2.2.2.2.2.2.2.2) rfl ?_
  refine j_aload_n dX5_ask_24 rfl rfl ?_
  refine j_getf dX5_ask_25 5 4 rfl (Nat.le_of_ble_eq_true rfl) fl_X5_26 in_5 (by first | exact X.1 | exact X.2.1 | exact X.2.2.2.1 | exact X.2.2.2.2.1 | exact X.2.2.2.2.2.2.1.o | exact X.2.2.2.2.2.2.1.c | exact X.2.2.2.2.2.2.1.i | exact X.2.2.2.2.2.2.1.p | exact X.2.2.2.2.2.2.1.d | exact X.2.2.2.2.2.2.2.1.o | exact X.2.2.2.2.2.2.2.2.1 | exact X.2.2.2.2.2.2.2.2.2.1 | exact X.2.2.2.2.2.2.2.2.2.2.2.1 | exact X.2.2.2.2.2.2.2.2.2.2.2.2.2.1 | exact X.2.2.2.2.2.2.2.2.2.2.2.2.2.2.1 | exact X.2.2.2.2.2.2.2.2.2.2.2.2.2.2.2) rfl ?_
  refine j_iload_n dX5_ask_28 rfl rfl ?_
  refine j_iload_n dX5_ask_29 rfl rfl ?_
  refine j_callV (c_answerOf_3_0 X hN hp hu hu2 hk) dX5_ask_30 rfl mv_X5_236 (by first | exact X.1 | exact X.2.1 | exact X.2.2.2.1 | exact X.2.2.2.2.1 | exact X.2.2.2.2.2.2.1.o | exact X.2.2.2.2.2.2.1.c | exact X.2.2.2.2.2.2.1.i | exact X.2.2.2.2.2.2.1.p | exact X.2.2.2.2.2.2.1.d | exact X.2.2.2.2.2.2.2.1.o | exact X.2.2.2.2.2.2.2.2.1 | exact X.2.2.2.2.2.2.2.2.2.1 | exact X.2.2.2.2.2.2.2.2.2.2.2.1 | exact X.2.2.2.2.2.2.2.2.2.2.2.2.2.1 | exact X.2.2.2.2.2.2.2.2.2.2.2.2.2.2.1 | exact X.2.2.2.2.2.2.2.2.2.2.2.2.2.2.2) rfl ⟨(Nat.le_of_ble_eq_true rfl), (Nat.le_of_ble_eq_true rfl)⟩ ⟨(Nat.le_of_ble_eq_true rfl), (Nat.le_of_ble_eq_true rfl)⟩ (Nat.le_of_ble_eq_true rfl) ?_
  exact j_iret rfl dX5_ask_33 rfl rfl (Nat.le_of_ble_eq_true rfl) (Nat.le_of_ble_eq_true rfl)
theorem c_answerOf_4_0 (X : XR σ lf fd rl rn ri tp rd dd d df nx kp da di tr bo ne) {p : Nat} (hN : sN d ≤ 7) (hp : p < sN d) (hu : 1 ≤ sU d) (hu2 : sU d ≤ 20) (hk : kindI (sD d) (sF d) (sN d) (sU d) p = nI 4) : Ct G yX1_answerOf cX1_answerOf 5 (some .int) 8 0 0 z σ [.ref 168, .ref 25, .int (nI p), .int (nI 0)] (some (.int (sC d p - nI 100))) z (akH σ (apB bo 0 [13, 10]) 2) := by
  refine Ct.ofJ RX1 rfl [some (.ref 168), some (.ref 25), some (.int (nI p)), some (.int (nI 0)), none] rfl (by decide) (by simp [Value.category]) ?_
  refine j_aload_n dX1_answerOf_0 rfl rfl ?_
  refine j_iconst (nI 0) dX1_answerOf_1 rfl ?_
  refine j_putf dX1_answerOf_2 1 1 rfl (Nat.le_of_ble_eq_true rfl) fl_X1_15 in_1 tyX1 tyX1_ok nmX1 rfl rfl (by first | exact X.1 | exact X.2.1 | exact X.2.2.2.1 | exact X.2.2.2.2.1 | exact X.2.2.2.2.2.2.1.o | exact X.2.2.2.2.2.2.1.c | exact X.2.2.2.2.2.2.1.i | exact X.2.2.2.2.2.2.1.p | exact X.2.2.2.2.2.2.1.d | exact X.2.2.2.2.2.2.2.1.o | exact X.2.2.2.2.2.2.2.2.1 | exact X.2.2.2.2.2.2.2.2.2.1 | exact X.2.2.2.2.2.2.2.2.2.2.2.1 | exact X.2.2.2.2.2.2.2.2.2.2.2.2.2.1 | exact X.2.2.2.2.2.2.2.2.2.2.2.2.2.2.1 | exact X.2.2.2.2.2.2.2.2.2.2.2.2.2.2.2) (Nat.le_of_ble_eq_true rfl) _ (show _ = ups σ 168 (xK 0) from rfl) ?_
  have X := X.asks 0
  refine j_aload_n dX1_answerOf_5 rfl rfl ?_
  refine j_iload_n dX1_answerOf_6 rfl rfl ?_
  refine j_callV (c_kindOfS X.2.2.2.2.2.2.1 hN (by omega) hu hu2) dX1_answerOf_7 rfl mv_X1_19 (by first | exact X.1 | exact X.2.1 | exact X.2.2.2.1 | exact X.2.2.2.2.1 | exact X.2.2.2.2.2.2.1.o | exact X.2.2.2.2.2.2.1.c | exact X.2.2.2.2.2.2.1.i | exact X.2.2.2.2.2.2.1.p | exact X.2.2.2.2.2.2.1.d | exact X.2.2.2.2.2.2.2.1.o | exact X.2.2.2.2.2.2.2.2.1 | exact X.2.2.2.2.2.2.2.2.2.1 | exact X.2.2.2.2.2.2.2.2.2.2.2.1 | exact X.2.2.2.2.2.2.2.2.2.2.2.2.2.1 | exact X.2.2.2.2.2.2.2.2.2.2.2.2.2.2.1 | exact X.2.2.2.2.2.2.2.2.2.2.2.2.2.2.2) rfl ⟨(Nat.le_of_ble_eq_true rfl), (Nat.le_of_ble_eq_true rfl)⟩ ⟨(Nat.le_of_ble_eq_true rfl), (Nat.le_of_ble_eq_true rfl)⟩ (Nat.le_of_ble_eq_true rfl) ?_
  refine j_istore dX1_answerOf_10 (Nat.le_of_ble_eq_true rfl) rfl ?_
  refine j_aload_n dX1_answerOf_12 rfl rfl ?_
  refine j_iload_n dX1_answerOf_13 rfl rfl ?_
  refine j_if_ne 26 dX1_answerOf_14 (by decide) (fun b14 => by exact absurd rfl b14) (fun b14 => ?_)
  refine j_gets RX1 "SIZE_BODIES" 201 dX1_answerOf_17 fl_X1_25 (fun _ _ h => h.2.1.1) ?_
  refine j_iload dX1_answerOf_20 rfl ?_
  refine j_tld 201 tb1 dX1_answerOf_22 (fun _ _ h => h.2.1.2) hk (by decide) (nI 13) (by decide) ?_
  refine j_goto 32 dX1_answerOf_23 (by decide) ?_
  refine j_aload_n dX1_answerOf_32 rfl rfl ?_
  refine j_iload_n dX1_answerOf_33 rfl rfl ?_
  refine j_iconst (nI 0) dX1_answerOf_34 rfl ?_
  refine j_callV (c_b13 X hN hp (by decide) (by decide)) dX1_answerOf_35 rfl mv_X1_31 (by first | exact X.1 | exact X.2.1 | exact X.2.2.2.1 | exact X.2.2.2.2.1 | exact X.2.2.2.2.2.2.1.o | exact X.2.2.2.2.2.2.1.c | exact X.2.2.2.2.2.2.1.i | exact X.2.2.2.2.2.2.1.p | exact X.2.2.2.2.2.2.1.d | exact X.2.2.2.2.2.2.2.1.o | exact X.2.2.2.2.2.2.2.2.1 | exact X.2.2.2.2.2.2.2.2.2.1 | exact X.2.2.2.2.2.2.2.2.2.2.2.1 | exact X.2.2.2.2.2.2.2.2.2.2.2.2.2.1 | exact X.2.2.2.2.2.2.2.2.2.2.2.2.2.2.1 | exact X.2.2.2.2.2.2.2.2.2.2.2.2.2.2.2) rfl ⟨(Nat.le_of_ble_eq_true rfl), (Nat.le_of_ble_eq_true rfl)⟩ ⟨(Nat.le_of_ble_eq_true rfl), (Nat.le_of_ble_eq_true rfl)⟩ (Nat.le_of_ble_eq_true rfl) ?_
  rw [show akH (ups σ 168 (xK 0)) (apB bo 0 [13, 10]) (0 + 2) = akH σ (apB bo 0 [13, 10]) 2 from ak0]
  exact j_iret rfl dX1_answerOf_38 rfl rfl (Nat.le_of_ble_eq_true rfl) (Nat.le_of_ble_eq_true rfl)
theorem x_ask_4_0 (X : XR σ lf fd rl rn ri tp rd dd d df nx kp da di tr bo ne) {p : Nat} (hN : sN d ≤ 7) (hp : p < sN d) (hu : 1 ≤ sU d) (hu2 : sU d ≤ 20) (hk : kindI (sD d) (sF d) (sN d) (sU d) p = nI 4) : Ct G yX5_ask cX5_ask 3 (some .int) 9 0 0 z σ [.ref 0, .int (nI p), .int (nI 0)] (some (.int (sC d p - nI 100))) z (akH σ (apB bo 0 [13, 10]) 2) := by
  refine Ct.ofJ RX5 rfl [some (.ref 0), some (.int (nI p)), some (.int (nI 0))] rfl (by decide) Nat.le.refl ?_
  refine j_aload_n dX5_ask_0 rfl rfl ?_
  refine j_iload_n dX5_ask_1 rfl rfl ?_
  refine j_callV (c_isNoPerson X (nI p)) dX5_ask_2 rfl mv_X5_155 (by first | exact X.1 | exact X.2.1 | exact X.2.2.2.1 | exact X.2.2.2.2.1 | exact X.2.2.2.2.2.2.1.o | exact X.2.2.2.2.2.2.1.c | exact X.2.2.2.2.2.2.1.i | exact X.2.2.2.2.2.2.1.p | exact X.2.2.2.2.2.2.1.d | exact X.2.2.2.2.2.2.2.1.o | exact X.2.2.2.2.2.2.2.2.1 | exact X.2.2.2.2.2.2.2.2.2.1 | exact X.2.2.2.2.2.2.2.2.2.2.2.1 | exact X.2.2.2.2.2.2.2.2.2.2.2.2.2.1 | exact X.2.2.2.2.2.2.2.2.2.2.2.2.2.2.1 | exact X.2.2.2.2.2.2.2.2.2.2.2.2.2.2.2) rfl ⟨(Nat.le_of_ble_eq_true rfl), (Nat.le_of_ble_eq_true rfl)⟩ ⟨(Nat.le_of_ble_eq_true rfl), (Nat.le_of_ble_eq_true rfl)⟩ (Nat.le_of_ble_eq_true rfl) ?_
  refine j_top (nI 0) (npI_k hp hN) ?_
  refine j_if_ne 17 dX5_ask_5 (by decide) (fun h => absurd rfl h) (fun _ => ?_)
  refine j_iload_n dX5_ask_8 rfl rfl ?_
  refine j_if_lt 17 dX5_ask_9 (by decide) (fun b9 => by exact absurd b9 (by decide)) (fun b9 => ?_)
  refine j_iload_n dX5_ask_12 rfl rfl ?_
  refine j_iconst (nI 1) dX5_ask_13 rfl ?_
  refine j_icmp_le 20 dX5_ask_14 (by decide) (fun b14 => ?_) (fun b14 => by exact absurd (by decide) b14)
  refine j_aload_n dX5_ask_20 rfl rfl ?_
  refine j_getf dX5_ask_21 5 8 rfl (Nat.le_of_ble_eq_true rfl) fl_X5_47 in_5 (by first | exact X.1 | exact X.2.1 | exact X.2.2.2.1 | exact X.2.2.2.2.1 | exact X.2.2.2.2.2.2.1.o | exact X.2.2.2.2.2.2.1.c | exact X.2.2.2.2.2.2.1.i | exact X.2.2.2.2.2.2.1.p | exact X.2.2.2.2.2.2.1.d | exact X.2.2.2.2.2.2.2.1.o | exact X.2.2.2.2.2.2.2.2.1 | exact X.2.2.2.2.2.2.2.2.2.1 | exact X.2.2.2.2.2.2.2.2.2.2.2.1 | exact X.2.2.2.2.2.2.2.2.2.2.2.2.2.1 | exact X.2.2.2.2.2.2.2.2.2.2.2.2.2.2.1 | exact X.2.2.2.2.2.2.2.2.2.2.2.2.2.2.2) rfl ?_
  refine j_aload_n dX5_ask_24 rfl rfl ?_
  refine j_getf dX5_ask_25 5 4 rfl (Nat.le_of_ble_eq_true rfl) fl_X5_26 in_5 (by first | exact X.1 | exact X.2.1 | exact X.2.2.2.1 | exact X.2.2.2.2.1 | exact X.2.2.2.2.2.2.1.o | exact X.2.2.2.2.2.2.1.c | exact X.2.2.2.2.2.2.1.i | exact X.2.2.2.2.2.2.1.p | exact X.2.2.2.2.2.2.1.d | exact X.2.2.2.2.2.2.2.1.o | exact X.2.2.2.2.2.2.2.2.1 | exact X.2.2.2.2.2.2.2.2.2.1 | exact X.2.2.2.2.2.2.2.2.2.2.2.1 | exact X.2.2.2.2.2.2.2.2.2.2.2.2.2.1 | exact X.2.2.2.2.2.2.2.2.2.2.2.2.2.2.1 | exact X.2.2.2.2.2.2.2.2.2.2.2.2.2.2.2) rfl ?_
  refine j_iload_n dX5_ask_28 rfl rfl ?_
  refine j_iload_n dX5_ask_29 rfl rfl ?_
  refine j_callV (c_answerOf_4_0 X hN hp hu hu2 hk) dX5_ask_30 rfl mv_X5_236 (by first | exact X.1 | exact X.2.1 | exact X.2.2.2.1 | exact X.2.2.2.2.1 | exact X.2.2.2.2.2.2.1.o | exact X.2.2.2.2.2.2.1.c | exact X.2.2.2.2.2.2.1.i | exact X.2.2.2.2.2.2.1.p | exact X.2.2.2.2.2.2.1.d | exact X.2.2.2.2.2.2.2.1.o | exact X.2.2.2.2.2.2.2.2.1 | exact X.2.2.2.2.2.2.2.2.2.1 | exact X.2.2.2.2.2.2.2.2.2.2.2.1 | exact X.2.2.2.2.2.2.2.2.2.2.2.2.2.1 | exact X.2.2.2.2.2.2.2.2.2.2.2.2.2.2.1 | exact X.2.2.2.2.2.2.2.2.2.2.2.2.2.2.2) rfl ⟨(Nat.le_of_ble_eq_true rfl), (Nat.le_of_ble_eq_true rfl)⟩ ⟨(Nat.le_of_ble_eq_true rfl), (Nat.le_of_ble_eq_true rfl)⟩ (Nat.le_of_ble_eq_true rfl) ?_
  exact j_iret rfl dX5_ask_33 rfl rfl (Nat.le_of_ble_eq_true rfl) (Nat.le_of_ble_eq_true rfl)
theorem c_answerOf_5_0 (X : XR σ lf fd rl rn ri tp rd dd d df nx kp da di tr bo ne) {p : Nat} (hN : sN d ≤ 7) (hp : p < sN d) (hu : 1 ≤ sU d) (hu2 : sU d ≤ 20) (hk : kindI (sD d) (sF d) (sN d) (sU d) p = nI 5) : Ct G yX1_answerOf cX1_answerOf 5 (some .int) 8 0 0 z σ [.ref 168, .ref 25, .int (nI p), .int (nI 0)] (some (.int (nI 2 * (sC d p - nI 100)))) z (akH σ (apB bo 0 [14, 13, 10]) 3) := by
  refine Ct.ofJ RX1 rfl [some (.ref 168), some (.ref 25), some (.int (nI p)), some (.int (nI 0)), none] rfl (by decide) (by simp [Value.category]) ?_
  refine j_aload_n dX1_answerOf_0 rfl rfl ?_
  refine j_iconst (nI 0) dX1_answerOf_1 rfl ?_
  refine j_putf dX1_answerOf_2 1 1 rfl (Nat.le_of_ble_eq_true rfl) fl_X1_15 in_1 tyX1 tyX1_ok nmX1 rfl rfl (by first | exact X.1 | exact X.2.1 | exact X.2.2.2.1 | exact X.2.2.2.2.1 | exact X.2.2.2.2.2.2.1.o | exact X.2.2.2.2.2.2.1.c | exact X.2.2.2.2.2.2.1.i | exact X.2.2.2.2.2.2.1.p | exact X.2.2.2.2.2.2.1.d | exact X.2.2.2.2.2.2.2.1.o | exact X.2.2.2.2.2.2.2.2.1 | exact X.2.2.2.2.2.2.2.2.2.1 | exact X.2.2.2.2.2.2.2.2.2.2.2.1 | exact X.2.2.2.2.2.2.2.2.2.2.2.2.2.1 | exact X.2.2.2.2.2.2.2.2.2.2.2.2.2.2.1 | exact X.2.2.2.2.2.2.2.2.2.2.2.2.2.2.2) (Nat.le_of_ble_eq_true rfl) _ (show _ = ups σ 168 (xK 0) from rfl) ?_
  have X := X.asks 0
  refine j_aload_n dX1_answerOf_5 rfl rfl ?_
  refine j_iload_n dX1_answerOf_6 rfl rfl ?_
  refine j_callV (c_kindOfS X.2.2.2.2.2.2.1 hN (by omega) hu hu2) dX1_answerOf_7 rfl mv_X1_19 (by first | exact X.1 | exact X.2.1 | exact X.2.2.2.1 | exact X.2.2.2.2.1 | exact X.2.2.2.2.2.2.1.o | exact X.2.2.2.2.2.2.1.c | exact X.2.2.2.2.2.2.1.i | exact X.2.2.2.2.2.2.1.p | exact X.2.2.2.2.2.2.1.d | exact X.2.2.2.2.2.2.2.1.o | exact X.2.2.2.2.2.2.2.2.1 | exact X.2.2.2.2.2.2.2.2.2.1 | exact X.2.2.2.2.2.2.2.2.2.2.2.1 | exact X.2.2.2.2.2.2.2.2.2.2.2.2.2.1 | exact X.2.2.2.2.2.2.2.2.2.2.2.2.2.2.1 | exact X.2.2.2.2.2.2.2.2.2.2.2.2.2.2.2) rfl ⟨(Nat.le_of_ble_eq_true rfl), (Nat.le_of_ble_eq_true rfl)⟩ ⟨(Nat.le_of_ble_eq_true rfl), (Nat.le_of_ble_eq_true rfl)⟩ (Nat.le_of_ble_eq_true rfl) ?_
  refine j_istore dX1_answerOf_10 (Nat.le_of_ble_eq_true rfl) rfl ?_
  refine j_aload_n dX1_answerOf_12 rfl rfl ?_
  refine j_iload_n dX1_answerOf_13 rfl rfl ?_
  refine j_if_ne 26 dX1_answerOf_14 (by decide) (fun b14 => by exact absurd rfl b14) (fun b14 => ?_)
  refine j_gets RX1 "SIZE_BODIES" 201 dX1_answerOf_17 fl_X1_25 (fun _ _ h => h.2.1.1) ?_
  refine j_iload dX1_answerOf_20 rfl ?_
  refine j_tld 201 tb1 dX1_answerOf_22 (fun _ _ h => h.2.1.2) hk (by decide) (nI 14) (by decide) ?_
  refine j_goto 32 dX1_answerOf_23 (by decide) ?_
  refine j_aload_n dX1_answerOf_32 rfl rfl ?_
  refine j_iload_n dX1_answerOf_33 rfl rfl ?_
  refine j_iconst (nI 0) dX1_answerOf_34 rfl ?_
  refine j_callV (c_b14 X hN hp (by decide) (by decide)) dX1_answerOf_35 rfl mv_X1_31 (by first | exact X.1 | exact X.2.1 | exact X.2.2.2.1 | exact X.2.2.2.2.1 | exact X.2.2.2.2.2.2.1.o | exact X.2.2.2.2.2.2.1.c | exact X.2.2.2.2.2.2.1.i | exact X.2.2.2.2.2.2.1.p | exact X.2.2.2.2.2.2.1.d | exact X.2.2.2.2.2.2.2.1.o | exact X.2.2.2.2.2.2.2.2.1 | exact X.2.2.2.2.2.2.2.2.2.1 | exact X.2.2.2.2.2.2.2.2.2.2.2.1 | exact X.2.2.2.2.2.2.2.2.2.2.2.2.2.1 | exact X.2.2.2.2.2.2.2.2.2.2.2.2.2.2.1 | exact X.2.2.2.2.2.2.2.2.2.2.2.2.2.2.2) rfl ⟨(Nat.le_of_ble_eq_true rfl), (Nat.le_of_ble_eq_true rfl)⟩ ⟨(Nat.le_of_ble_eq_true rfl), (Nat.le_of_ble_eq_true rfl)⟩ (Nat.le_of_ble_eq_true rfl) ?_
  rw [show akH (ups σ 168 (xK 0)) (apB bo 0 [14, 13, 10]) (0 + 3) = akH σ (apB bo 0 [14, 13, 10]) 3 from ak0]
  exact j_iret rfl dX1_answerOf_38 rfl rfl (Nat.le_of_ble_eq_true rfl) (Nat.le_of_ble_eq_true rfl)
theorem x_ask_5_0 (X : XR σ lf fd rl rn ri tp rd dd d df nx kp da di tr bo ne) {p : Nat} (hN : sN d ≤ 7) (hp : p < sN d) (hu : 1 ≤ sU d) (hu2 : sU d ≤ 20) (hk : kindI (sD d) (sF d) (sN d) (sU d) p = nI 5) : Ct G yX5_ask cX5_ask 3 (some .int) 9 0 0 z σ [.ref 0, .int (nI p), .int (nI 0)] (some (.int (nI 2 * (sC d p - nI 100)))) z (akH σ (apB bo 0 [14, 13, 10]) 3) := by
  refine Ct.ofJ RX5 rfl [some (.ref 0), some (.int (nI p)), some (.int (nI 0))] rfl (by decide) Nat.le.refl ?_
  refine j_aload_n dX5_ask_0 rfl rfl ?_
  refine j_iload_n dX5_ask_1 rfl rfl ?_
  refine j_callV (c_isNoPerson X (nI p)) dX5_ask_2 rfl mv_X5_155 (by first | exact X.1 | exact X.2.1 | exact X.2.2.2.1 | exact X.2.2.2.2.1 | exact X.2.2.2.2.2.2.1.o | exact X.2.2.2.2.2.2.1.c | exact X.2.2.2.2.2.2.1.i | exact X.2.2.2.2.2.2.1.p | exact X.2.2.2.2.2.2.1.d | exact X.2.2.2.2.2.2.2.1.o | exact X.2.2.2.2.2.2.2.2.1 | exact X.2.2.2.2.2.2.2.2.2.1 | exact X.2.2.2.2.2.2.2.2.2.2.2.1 | exact X.2.2.2.2.2.2.2.2.2.2.2.2.2.1 | exact X.2.2.2.2.2.2.2.2.2.2.2.2.2.2.1 | exact X.2.2.2.2.2.2.2.2.2.2.2.2.2.2.2) rfl ⟨(Nat.le_of_ble_eq_true rfl), (Nat.le_of_ble_eq_true rfl)⟩ ⟨(Nat.le_of_ble_eq_true rfl), (Nat.le_of_ble_eq_true rfl)⟩ (Nat.le_of_ble_eq_true rfl) ?_
  refine j_top (nI 0) (npI_k hp hN) ?_
  refine j_if_ne 17 dX5_ask_5 (by decide) (fun h => absurd rfl h) (fun _ => ?_)
  refine j_iload_n dX5_ask_8 rfl rfl ?_
  refine j_if_lt 17 dX5_ask_9 (by decide) (fun b9 => by exact absurd b9 (by decide)) (fun b9 => ?_)
  refine j_iload_n dX5_ask_12 rfl rfl ?_
  refine j_iconst (nI 1) dX5_ask_13 rfl ?_
  refine j_icmp_le 20 dX5_ask_14 (by decide) (fun b14 => ?_) (fun b14 => by exact absurd (by decide) b14)
  refine j_aload_n dX5_ask_20 rfl rfl ?_
  refine j_getf dX5_ask_21 5 8 rfl (Nat.le_of_ble_eq_true rfl) fl_X5_47 in_5 (by first | exact X.1 | exact X.2.1 | exact X.2.2.2.1 | exact X.2.2.2.2.1 | exact X.2.2.2.2.2.2.1.o | exact X.2.2.2.2.2.2.1.c | exact X.2.2.2.2.2.2.1.i | exact X.2.2.2.2.2.2.1.p | exact X.2.2.2.2.2.2.1.d | exact X.2.2.2.2.2.2.2.1.o | exact X.2.2.2.2.2.2.2.2.1 | exact X.2.2.2.2.2.2.2.2.2.1 | exact X.2.2.2.2.2.2.2.2.2.2.2.1 | exact X.2.2.2.2.2.2.2.2.2.2.2.2.2.1 | exact X.2.2.2.2.2.2.2.2.2.2.2.2.2.2.1 | exact X.2.2.2.2.2.2.2.2.2.2.2.2.2.2.2) rfl ?_
  refine j_aload_n dX5_ask_24 rfl rfl ?_
  refine j_getf dX5_ask_25 5 4 rfl (Nat.le_of_ble_eq_true rfl) fl_X5_26 in_5 (by first | exact X.1 | exact X.2.1 | exact X.2.2.2.1 | exact X.2.2.2.2.1 | exact X.2.2.2.2.2.2.1.o | exact X.2.2.2.2.2.2.1.c | exact X.2.2.2.2.2.2.1.i | exact X.2.2.2.2.2.2.1.p | exact X.2.2.2.2.2.2.1.d | exact X.2.2.2.2.2.2.2.1.o | exact X.2.2.2.2.2.2.2.2.1 | exact X.2.2.2.2.2.2.2.2.2.1 | exact X.2.2.2.2.2.2.2.2.2.2.2.1 | exact X.2.2.2.2.2.2.2.2.2.2.2.2.2.1 | exact X.2.2.2.2.2.2.2.2.2.2.2.2.2.2.1 | exact X.2.2.2.2.2.2.2.2.2.2.2.2.2.2.2) rfl ?_
  refine j_iload_n dX5_ask_28 rfl rfl ?_
  refine j_iload_n dX5_ask_29 rfl rfl ?_
  refine j_callV (c_answerOf_5_0 X hN hp hu hu2 hk) dX5_ask_30 rfl mv_X5_236 (by first | exact X.1 | exact X.2.1 | exact X.2.2.2.1 | exact X.2.2.2.2.1 | exact X.2.2.2.2.2.2.1.o | exact X.2.2.2.2.2.2.1.c | exact X.2.2.2.2.2.2.1.i | exact X.2.2.2.2.2.2.1.p | exact X.2.2.2.2.2.2.1.d | exact X.2.2.2.2.2.2.2.1.o | exact X.2.2.2.2.2.2.2.2.1 | exact X.2.2.2.2.2.2.2.2.2.1 | exact X.2.2.2.2.2.2.2.2.2.2.2.1 | exact X.2.2.2.2.2.2.2.2.2.2.2.2.2.1 | exact X.2.2.2.2.2.2.2.2.2.2.2.2.2.2.1 | exact X.2.2.2.2.2.2.2.2.2.2.2.2.2.2.2) rfl ⟨(Nat.le_of_ble_eq_true rfl), (Nat.le_of_ble_eq_true rfl)⟩ ⟨(Nat.le_of_ble_eq_true rfl), (Nat.le_of_ble_eq_true rfl)⟩ (Nat.le_of_ble_eq_true rfl) ?_
  exact j_iret rfl dX5_ask_33 rfl rfl (Nat.le_of_ble_eq_true rfl) (Nat.le_of_ble_eq_true rfl)
theorem c_answerOf_1_1 (X : XR σ lf fd rl rn ri tp rd dd d df nx kp da di tr bo ne) {p : Nat} (hN : sN d ≤ 7) (hp : p < sN d) (hu : 1 ≤ sU d) (hu2 : sU d ≤ 20) (hk : kindI (sD d) (sF d) (sN d) (sU d) p = nI 1) : Ct G yX1_answerOf cX1_answerOf 5 (some .int) 8 0 0 z σ [.ref 168, .ref 25, .int (nI p), .int (nI 1)] (some (.int (nI p + dsum (sD d) (sN d) p))) z (akH σ (apB bo 0 [21, 20]) 2) := by
  refine Ct.ofJ RX1 rfl [some (.ref 168), some (.ref 25), some (.int (nI p)), some (.int (nI 1)), none] rfl (by decide) (by simp [Value.category]) ?_
  refine j_aload_n dX1_answerOf_0 rfl rfl ?_
  refine j_iconst (nI 0) dX1_answerOf_1 rfl ?_
  refine j_putf dX1_answerOf_2 1 1 rfl (Nat.le_of_ble_eq_true rfl) fl_X1_15 in_1 tyX1 tyX1_ok nmX1 rfl rfl (by first | exact X.1 | exact X.2.1 | exact X.2.2.2.1 | exact X.2.2.2.2.1 | exact X.2.2.2.2.2.2.1.o | exact X.2.2.2.2.2.2.1.c | exact X.2.2.2.2.2.2.1.i | exact X.2.2.2.2.2.2.1.p | exact X.2.2.2.2.2.2.1.d | exact X.2.2.2.2.2.2.2.1.o | exact X.2.2.2.2.2.2.2.2.1 | exact X.2.2.2.2.2.2.2.2.2.1 | exact X.2.2.2.2.2.2.2.2.2.2.2.1 | exact X.2.2.2.2.2.2.2.2.2.2.2.2.2.1 | exact X.2.2.2.2.2.2.2.2.2.2.2.2.2.2.1 | exact X.2.2.2.2.2.2.2.2.2.2.2.2.2.2.2) (Nat.le_of_ble_eq_true rfl) _ (show _ = ups σ 168 (xK 0) from rfl) ?_
  have X := X.asks 0
  refine j_aload_n dX1_answerOf_5 rfl rfl ?_
  refine j_iload_n dX1_answerOf_6 rfl rfl ?_
  refine j_callV (c_kindOfS X.2.2.2.2.2.2.1 hN (by omega) hu hu2) dX1_answerOf_7 rfl mv_X1_19 (by first | exact X.1 | exact X.2.1 | exact X.2.2.2.1 | exact X.2.2.2.2.1 | exact X.2.2.2.2.2.2.1.o | exact X.2.2.2.2.2.2.1.c | exact X.2.2.2.2.2.2.1.i | exact X.2.2.2.2.2.2.1.p | exact X.2.2.2.2.2.2.1.d | exact X.2.2.2.2.2.2.2.1.o | exact X.2.2.2.2.2.2.2.2.1 | exact X.2.2.2.2.2.2.2.2.2.1 | exact X.2.2.2.2.2.2.2.2.2.2.2.1 | exact X.2.2.2.2.2.2.2.2.2.2.2.2.2.1 | exact X.2.2.2.2.2.2.2.2.2.2.2.2.2.2.1 | exact X.2.2.2.2.2.2.2.2.2.2.2.2.2.2.2) rfl ⟨(Nat.le_of_ble_eq_true rfl), (Nat.le_of_ble_eq_true rfl)⟩ ⟨(Nat.le_of_ble_eq_true rfl), (Nat.le_of_ble_eq_true rfl)⟩ (Nat.le_of_ble_eq_true rfl) ?_
  refine j_istore dX1_answerOf_10 (Nat.le_of_ble_eq_true rfl) rfl ?_
  refine j_aload_n dX1_answerOf_12 rfl rfl ?_
  refine j_iload_n dX1_answerOf_13 rfl rfl ?_
  refine j_if_ne 26 dX1_answerOf_14 (by decide) (fun b14 => ?_) (fun b14 => by exact absurd b14 (by decide))
  refine j_gets RX1 "MARK_BODIES" 202 dX1_answerOf_26 fl_X1_28 (fun _ _ h => h.2.2.1.1) ?_
  refine j_iload dX1_answerOf_29 rfl ?_
  refine j_tld 202 tb2 dX1_answerOf_31 (fun _ _ h => h.2.2.1.2) hk (by decide) (nI 21) (by decide) ?_
  refine j_aload_n dX1_answerOf_32 rfl rfl ?_
  refine j_iload_n dX1_answerOf_33 rfl rfl ?_
  refine j_iconst (nI 0) dX1_answerOf_34 rfl ?_
  refine j_callV (c_b21 X hN hp (by decide) (by decide)) dX1_answerOf_35 rfl mv_X1_31 (by first | exact X.1 | exact X.2.1 | exact X.2.2.2.1 | exact X.2.2.2.2.1 | exact X.2.2.2.2.2.2.1.o | exact X.2.2.2.2.2.2.1.c | exact X.2.2.2.2.2.2.1.i | exact X.2.2.2.2.2.2.1.p | exact X.2.2.2.2.2.2.1.d | exact X.2.2.2.2.2.2.2.1.o | exact X.2.2.2.2.2.2.2.2.1 | exact X.2.2.2.2.2.2.2.2.2.1 | exact X.2.2.2.2.2.2.2.2.2.2.2.1 | exact X.2.2.2.2.2.2.2.2.2.2.2.2.2.1 | exact X.2.2.2.2.2.2.2.2.2.2.2.2.2.2.1 | exact X.2.2.2.2.2.2.2.2.2.2.2.2.2.2.2) rfl ⟨(Nat.le_of_ble_eq_true rfl), (Nat.le_of_ble_eq_true rfl)⟩ ⟨(Nat.le_of_ble_eq_true rfl), (Nat.le_of_ble_eq_true rfl)⟩ (Nat.le_of_ble_eq_true rfl) ?_
  rw [show akH (ups σ 168 (xK 0)) (apB bo 0 [21, 20]) (0 + 2) = akH σ (apB bo 0 [21, 20]) 2 from ak0]
  exact j_iret rfl dX1_answerOf_38 rfl rfl (Nat.le_of_ble_eq_true rfl) (Nat.le_of_ble_eq_true rfl)
theorem x_ask_1_1 (X : XR σ lf fd rl rn ri tp rd dd d df nx kp da di tr bo ne) {p : Nat} (hN : sN d ≤ 7) (hp : p < sN d) (hu : 1 ≤ sU d) (hu2 : sU d ≤ 20) (hk : kindI (sD d) (sF d) (sN d) (sU d) p = nI 1) : Ct G yX5_ask cX5_ask 3 (some .int) 9 0 0 z σ [.ref 0, .int (nI p), .int (nI 1)] (some (.int (nI p + dsum (sD d) (sN d) p))) z (akH σ (apB bo 0 [21, 20]) 2) := by
  refine Ct.ofJ RX5 rfl [some (.ref 0), some (.int (nI p)), some (.int (nI 1))] rfl (by decide) Nat.le.refl ?_
  refine j_aload_n dX5_ask_0 rfl rfl ?_
  refine j_iload_n dX5_ask_1 rfl rfl ?_
  refine j_callV (c_isNoPerson X (nI p)) dX5_ask_2 rfl mv_X5_155 (by first | exact X.1 | exact X.2.1 | exact X.2.2.2.1 | exact X.2.2.2.2.1 | exact X.2.2.2.2.2.2.1.o | exact X.2.2.2.2.2.2.1.c | exact X.2.2.2.2.2.2.1.i | exact X.2.2.2.2.2.2.1.p | exact X.2.2.2.2.2.2.1.d | exact X.2.2.2.2.2.2.2.1.o | exact X.2.2.2.2.2.2.2.2.1 | exact X.2.2.2.2.2.2.2.2.2.1 | exact X.2.2.2.2.2.2.2.2.2.2.2.1 | exact X.2.2.2.2.2.2.2.2.2.2.2.2.2.1 | exact X.2.2.2.2.2.2.2.2.2.2.2.2.2.2.1 | exact X.2.2.2.2.2.2.2.2.2.2.2.2.2.2.2) rfl ⟨(Nat.le_of_ble_eq_true rfl), (Nat.le_of_ble_eq_true rfl)⟩ ⟨(Nat.le_of_ble_eq_true rfl), (Nat.le_of_ble_eq_true rfl)⟩ (Nat.le_of_ble_eq_true rfl) ?_
  refine j_top (nI 0) (npI_k hp hN) ?_
  refine j_if_ne 17 dX5_ask_5 (by decide) (fun h => absurd rfl h) (fun _ => ?_)
  refine j_iload_n dX5_ask_8 rfl rfl ?_
  refine j_if_lt 17 dX5_ask_9 (by decide) (fun b9 => by exact absurd b9 (by decide)) (fun b9 => ?_)
  refine j_iload_n dX5_ask_12 rfl rfl ?_
  refine j_iconst (nI 1) dX5_ask_13 rfl ?_
  refine j_icmp_le 20 dX5_ask_14 (by decide) (fun b14 => ?_) (fun b14 => by exact absurd (by decide) b14)
  refine j_aload_n dX5_ask_20 rfl rfl ?_
  refine j_getf dX5_ask_21 5 8 rfl (Nat.le_of_ble_eq_true rfl) fl_X5_47 in_5 (by first | exact X.1 | exact X.2.1 | exact X.2.2.2.1 | exact X.2.2.2.2.1 | exact X.2.2.2.2.2.2.1.o | exact X.2.2.2.2.2.2.1.c | exact X.2.2.2.2.2.2.1.i | exact X.2.2.2.2.2.2.1.p | exact X.2.2.2.2.2.2.1.d | exact X.2.2.2.2.2.2.2.1.o | exact X.2.2.2.2.2.2.2.2.1 | exact X.2.2.2.2.2.2.2.2.2.1 | exact X.2.2.2.2.2.2.2.2.2.2.2.1 | exact X.2.2.2.2.2.2.2.2.2.2.2.2.2.1 | exact X.2.2.2.2.2.2.2.2.2.2.2.2.2.2.1 | exact X.2.2.2.2.2.2.2.2.2.2.2.2.2.2.2) rfl ?_
  refine j_aload_n dX5_ask_24 rfl rfl ?_
  refine j_getf dX5_ask_25 5 4 rfl (Nat.le_of_ble_eq_true rfl) fl_X5_26 in_5 (by first | exact X.1 | exact X.2.1 | exact X.2.2.2.1 | exact X.2.2.2.2.1 | exact X.2.2.2.2.2.2.1.o | exact X.2.2.2.2.2.2.1.c | exact X.2.2.2.2.2.2.1.i | exact X.2.2.2.2.2.2.1.p | exact X.2.2.2.2.2.2.1.d | exact X.2.2.2.2.2.2.2.1.o | exact X.2.2.2.2.2.2.2.2.1 | exact X.2.2.2.2.2.2.2.2.2.1 | exact X.2.2.2.2.2.2.2.2.2.2.2.1 | exact X.2.2.2.2.2.2.2.2.2.2.2.2.2.1 | exact X.2.2.2.2.2.2.2.2.2.2.2.2.2.2.1 | exact X.2.2.2.2.2.2.2.2.2.2.2.2.2.2.2) rfl ?_
  refine j_iload_n dX5_ask_28 rfl rfl ?_
  refine j_iload_n dX5_ask_29 rfl rfl ?_
  refine j_callV (c_answerOf_1_1 X hN hp hu hu2 hk) dX5_ask_30 rfl mv_X5_236 (by first | exact X.1 | exact X.2.1 | exact X.2.2.2.1 | exact X.2.2.2.2.1 | exact X.2.2.2.2.2.2.1.o | exact X.2.2.2.2.2.2.1.c | exact X.2.2.2.2.2.2.1.i | exact X.2.2.2.2.2.2.1.p | exact X.2.2.2.2.2.2.1.d | exact X.2.2.2.2.2.2.2.1.o | exact X.2.2.2.2.2.2.2.2.1 | exact X.2.2.2.2.2.2.2.2.2.1 | exact X.2.2.2.2.2.2.2.2.2.2.2.1 | exact X.2.2.2.2.2.2.2.2.2.2.2.2.2.1 | exact X.2.2.2.2.2.2.2.2.2.2.2.2.2.2.1 | exact X.2.2.2.2.2.2.2.2.2.2.2.2.2.2.2) rfl ⟨(Nat.le_of_ble_eq_true rfl), (Nat.le_of_ble_eq_true rfl)⟩ ⟨(Nat.le_of_ble_eq_true rfl), (Nat.le_of_ble_eq_true rfl)⟩ (Nat.le_of_ble_eq_true rfl) ?_
  exact j_iret rfl dX5_ask_33 rfl rfl (Nat.le_of_ble_eq_true rfl) (Nat.le_of_ble_eq_true rfl)
theorem c_answerOf_2_1 (X : XR σ lf fd rl rn ri tp rd dd d df nx kp da di tr bo ne) {p : Nat} (hN : sN d ≤ 7) (hp : p < sN d) (hu : 1 ≤ sU d) (hu2 : sU d ≤ 20) (hk : kindI (sD d) (sF d) (sN d) (sU d) p = nI 2) : Ct G yX1_answerOf cX1_answerOf 5 (some .int) 8 0 0 z σ [.ref 168, .ref 25, .int (nI p), .int (nI 1)] (some (.int (nI p + dsum (sD d) (sN d) p - nI 1000))) z (akH σ (apB bo 0 [22, 21, 20]) 3) := by
  refine Ct.ofJ RX1 rfl [some (.ref 168), some (.ref 25), some (.int (nI p)), some (.int (nI 1)), none] rfl (by decide) (by simp [Value.category]) ?_
  refine j_aload_n dX1_answerOf_0 rfl rfl ?_
  refine j_iconst (nI 0) dX1_answerOf_1 rfl ?_
  refine j_putf dX1_answerOf_2 1 1 rfl (Nat.le_of_ble_eq_true rfl) fl_X1_15 in_1 tyX1 tyX1_ok nmX1 rfl rfl (by first | exact X.1 | exact X.2.1 | exact X.2.2.2.1 | exact X.2.2.2.2.1 | exact X.2.2.2.2.2.2.1.o | exact X.2.2.2.2.2.2.1.c | exact X.2.2.2.2.2.2.1.i | exact X.2.2.2.2.2.2.1.p | exact X.2.2.2.2.2.2.1.d | exact X.2.2.2.2.2.2.2.1.o | exact X.2.2.2.2.2.2.2.2.1 | exact X.2.2.2.2.2.2.2.2.2.1 | exact X.2.2.2.2.2.2.2.2.2.2.2.1 | exact X.2.2.2.2.2.2.2.2.2.2.2.2.2.1 | exact X.2.2.2.2.2.2.2.2.2.2.2.2.2.2.1 | exact X.2.2.2.2.2.2.2.2.2.2.2.2.2.2.2) (Nat.le_of_ble_eq_true rfl) _ (show _ = ups σ 168 (xK 0) from rfl) ?_
  have X := X.asks 0
  refine j_aload_n dX1_answerOf_5 rfl rfl ?_
  refine j_iload_n dX1_answerOf_6 rfl rfl ?_
  refine j_callV (c_kindOfS X.2.2.2.2.2.2.1 hN (by omega) hu hu2) dX1_answerOf_7 rfl mv_X1_19 (by first | exact X.1 | exact X.2.1 | exact X.2.2.2.1 | exact X.2.2.2.2.1 | exact X.2.2.2.2.2.2.1.o | exact X.2.2.2.2.2.2.1.c | exact X.2.2.2.2.2.2.1.i | exact X.2.2.2.2.2.2.1.p | exact X.2.2.2.2.2.2.1.d | exact X.2.2.2.2.2.2.2.1.o | exact X.2.2.2.2.2.2.2.2.1 | exact X.2.2.2.2.2.2.2.2.2.1 | exact X.2.2.2.2.2.2.2.2.2.2.2.1 | exact X.2.2.2.2.2.2.2.2.2.2.2.2.2.1 | exact X.2.2.2.2.2.2.2.2.2.2.2.2.2.2.1 | exact X.2.2.2.2.2.2.2.2.2.2.2.2.2.2.2) rfl ⟨(Nat.le_of_ble_eq_true rfl), (Nat.le_of_ble_eq_true rfl)⟩ ⟨(Nat.le_of_ble_eq_true rfl), (Nat.le_of_ble_eq_true rfl)⟩ (Nat.le_of_ble_eq_true rfl) ?_
  refine j_istore dX1_answerOf_10 (Nat.le_of_ble_eq_true rfl) rfl ?_
  refine j_aload_n dX1_answerOf_12 rfl rfl ?_
  refine j_iload_n dX1_answerOf_13 rfl rfl ?_
  refine j_if_ne 26 dX1_answerOf_14 (by decide) (fun b14 => ?_) (fun b14 => by exact absurd b14 (by decide))
  refine j_gets RX1 "MARK_BODIES" 202 dX1_answerOf_26 fl_X1_28 (fun _ _ h => h.2.2.1.1) ?_
  refine j_iload dX1_answerOf_29 rfl ?_
  refine j_tld 202 tb2 dX1_answerOf_31 (fun _ _ h => h.2.2.1.2) hk (by decide) (nI 22) (by decide) ?_
  refine j_aload_n dX1_answerOf_32 rfl rfl ?_
  refine j_iload_n dX1_answerOf_33 rfl rfl ?_
  refine j_iconst (nI 0) dX1_answerOf_34 rfl ?_
  refine j_callV (c_b22 X hN hp (by decide) (by decide)) dX1_answerOf_35 rfl mv_X1_31 (by first | exact X.1 | exact X.2.1 | exact X.2.2.2.1 | exact X.2.2.2.2.1 | exact X.2.2.2.2.2.2.1.o | exact X.2.2.2.2.2.2.1.c | exact X.2.2.2.2.2.2.1.i | exact X.2.2.2.2.2.2.1.p | exact X.2.2.2.2.2.2.1.d | exact X.2.2.2.2.2.2.2.1.o | exact X.2.2.2.2.2.2.2.2.1 | exact X.2.2.2.2.2.2.2.2.2.1 | exact X.2.2.2.2.2.2.2.2.2.2.2.1 | exact X.2.2.2.2.2.2.2.2.2.2.2.2.2.1 | exact X.2.2.2.2.2.2.2.2.2.2.2.2.2.2.1 | exact X.2.2.2.2.2.2.2.2.2.2.2.2.2.2.2) rfl ⟨(Nat.le_of_ble_eq_true rfl), (Nat.le_of_ble_eq_true rfl)⟩ ⟨(Nat.le_of_ble_eq_true rfl), (Nat.le_of_ble_eq_true rfl)⟩ (Nat.le_of_ble_eq_true rfl) ?_
  rw [show akH (ups σ 168 (xK 0)) (apB bo 0 [22, 21, 20]) (0 + 3) = akH σ (apB bo 0 [22, 21, 20]) 3 from ak0]
  exact j_iret rfl dX1_answerOf_38 rfl rfl (Nat.le_of_ble_eq_true rfl) (Nat.le_of_ble_eq_true rfl)
theorem x_ask_2_1 (X : XR σ lf fd rl rn ri tp rd dd d df nx kp da di tr bo ne) {p : Nat} (hN : sN d ≤ 7) (hp : p < sN d) (hu : 1 ≤ sU d) (hu2 : sU d ≤ 20) (hk : kindI (sD d) (sF d) (sN d) (sU d) p = nI 2) : Ct G yX5_ask cX5_ask 3 (some .int) 9 0 0 z σ [.ref 0, .int (nI p), .int (nI 1)] (some (.int (nI p + dsum (sD d) (sN d) p - nI 1000))) z (akH σ (apB bo 0 [22, 21, 20]) 3) := by
  refine Ct.ofJ RX5 rfl [some (.ref 0), some (.int (nI p)), some (.int (nI 1))] rfl (by decide) Nat.le.refl ?_
  refine j_aload_n dX5_ask_0 rfl rfl ?_
  refine j_iload_n dX5_ask_1 rfl rfl ?_
  refine j_callV (c_isNoPerson X (nI p)) dX5_ask_2 rfl mv_X5_155 (by first | exact X.1 | exact X.2.1 | exact X.2.2.2.1 | exact X.2.2.2.2.1 | exact X.2.2.2.2.2.2.1.o | exact X.2.2.2.2.2.2.1.c | exact X.2.2.2.2.2.2.1.i | exact X.2.2.2.2.2.2.1.p | exact X.2.2.2.2.2.2.1.d | exact X.2.2.2.2.2.2.2.1.o | exact X.2.2.2.2.2.2.2.2.1 | exact X.2.2.2.2.2.2.2.2.2.1 | exact X.2.2.2.2.2.2.2.2.2.2.2.1 | exact X.2.2.2.2.2.2.2.2.2.2.2.2.2.1 | exact X.2.2.2.2.2.2.2.2.2.2.2.2.2.2.1 | exact X.2.2.2.2.2.2.2.2.2.2.2.2.2.2.2) rfl ⟨(Nat.le_of_ble_eq_true rfl), (Nat.le_of_ble_eq_true rfl)⟩ ⟨(Nat.le_of_ble_eq_true rfl), (Nat.le_of_ble_eq_true rfl)⟩ (Nat.le_of_ble_eq_true rfl) ?_
  refine j_top (nI 0) (npI_k hp hN) ?_
  refine j_if_ne 17 dX5_ask_5 (by decide) (fun h => absurd rfl h) (fun _ => ?_)
  refine j_iload_n dX5_ask_8 rfl rfl ?_
  refine j_if_lt 17 dX5_ask_9 (by decide) (fun b9 => by exact absurd b9 (by decide)) (fun b9 => ?_)
  refine j_iload_n dX5_ask_12 rfl rfl ?_
  refine j_iconst (nI 1) dX5_ask_13 rfl ?_
  refine j_icmp_le 20 dX5_ask_14 (by decide) (fun b14 => ?_) (fun b14 => by exact absurd (by decide) b14)
  refine j_aload_n dX5_ask_20 rfl rfl ?_
  refine j_getf dX5_ask_21 5 8 rfl (Nat.le_of_ble_eq_true rfl) fl_X5_47 in_5 (by first | exact X.1 | exact X.2.1 | exact X.2.2.2.1 | exact X.2.2.2.2.1 | exact X.2.2.2.2.2.2.1.o | exact X.2.2.2.2.2.2.1.c | exact X.2.2.2.2.2.2.1.i | exact X.2.2.2.2.2.2.1.p | exact X.2.2.2.2.2.2.1.d | exact X.2.2.2.2.2.2.2.1.o | exact X.2.2.2.2.2.2.2.2.1 | exact X.2.2.2.2.2.2.2.2.2.1 | exact X.2.2.2.2.2.2.2.2.2.2.2.1 | exact X.2.2.2.2.2.2.2.2.2.2.2.2.2.1 | exact X.2.2.2.2.2.2.2.2.2.2.2.2.2.2.1 | exact X.2.2.2.2.2.2.2.2.2.2.2.2.2.2.2) rfl ?_
  refine j_aload_n dX5_ask_24 rfl rfl ?_
  refine j_getf dX5_ask_25 5 4 rfl (Nat.le_of_ble_eq_true rfl) fl_X5_26 in_5 (by first | exact X.1 | exact X.2.1 | exact X.2.2.2.1 | exact X.2.2.2.2.1 | exact X.2.2.2.2.2.2.1.o | exact X.2.2.2.2.2.2.1.c | exact X.2.2.2.2.2.2.1.i | exact X.2.2.2.2.2.2.1.p | exact X.2.2.2.2.2.2.1.d | exact X.2.2.2.2.2.2.2.1.o | exact X.2.2.2.2.2.2.2.2.1 | exact X.2.2.2.2.2.2.2.2.2.1 | exact X.2.2.2.2.2.2.2.2.2.2.2.1 | exact X.2.2.2.2.2.2.2.2.2.2.2.2.2.1 | exact X.2.2.2.2.2.2.2.2.2.2.2.2.2.2.1 | exact X.2.2.2.2.2.2.2.2.2.2.2.2.2.2.2) rfl ?_
  refine j_iload_n dX5_ask_28 rfl rfl ?_
  refine j_iload_n dX5_ask_29 rfl rfl ?_
  refine j_callV (c_answerOf_2_1 X hN hp hu hu2 hk) dX5_ask_30 rfl mv_X5_236 (by first | exact X.1 | exact X.2.1 | exact X.2.2.2.1 | exact X.2.2.2.2.1 | exact X.2.2.2.2.2.2.1.o | exact X.2.2.2.2.2.2.1.c | exact X.2.2.2.2.2.2.1.i | exact X.2.2.2.2.2.2.1.p | exact X.2.2.2.2.2.2.1.d | exact X.2.2.2.2.2.2.2.1.o | exact X.2.2.2.2.2.2.2.2.1 | exact X.2.2.2.2.2.2.2.2.2.1 | exact X.2.2.2.2.2.2.2.2.2.2.2.1 | exact X.2.2.2.2.2.2.2.2.2.2.2.2.2.1 | exact X.2.2.2.2.2.2.2.2.2.2.2.2.2.2.1 | exact X.2.2.2.2.2.2.2.2.2.2.2.2.2.2.2) rfl ⟨(Nat.le_of_ble_eq_true rfl), (Nat.le_of_ble_eq_true rfl)⟩ ⟨(Nat.le_of_ble_eq_true rfl), (Nat.le_of_ble_eq_true rfl)⟩ (Nat.le_of_ble_eq_true rfl) ?_
  exact j_iret rfl dX5_ask_33 rfl rfl (Nat.le_of_ble_eq_true rfl) (Nat.le_of_ble_eq_true rfl)
theorem c_answerOf_3_1 (X : XR σ lf fd rl rn ri tp rd dd d df nx kp da di tr bo ne) {p : Nat} (hN : sN d ≤ 7) (hp : p < sN d) (hu : 1 ≤ sU d) (hu2 : sU d ≤ 20) (hk : kindI (sD d) (sF d) (sN d) (sU d) p = nI 3) : Ct G yX1_answerOf cX1_answerOf 5 (some .int) 8 0 0 z σ [.ref 168, .ref 25, .int (nI p), .int (nI 1)] (some (.int (nI 2 * (nI p + dsum (sD d) (sN d) p - nI 1000)))) z (akH σ (apB bo 0 [24, 22, 21, 20]) 4) := by
  refine Ct.ofJ RX1 rfl [some (.ref 168), some (.ref 25), some (.int (nI p)), some (.int (nI 1)), none] rfl (by decide) (by simp [Value.category]) ?_
  refine j_aload_n dX1_answerOf_0 rfl rfl ?_
  refine j_iconst (nI 0) dX1_answerOf_1 rfl ?_
  refine j_putf dX1_answerOf_2 1 1 rfl (Nat.le_of_ble_eq_true rfl) fl_X1_15 in_1 tyX1 tyX1_ok nmX1 rfl rfl (by first | exact X.1 | exact X.2.1 | exact X.2.2.2.1 | exact X.2.2.2.2.1 | exact X.2.2.2.2.2.2.1.o | exact X.2.2.2.2.2.2.1.c | exact X.2.2.2.2.2.2.1.i | exact X.2.2.2.2.2.2.1.p | exact X.2.2.2.2.2.2.1.d | exact X.2.2.2.2.2.2.2.1.o | exact X.2.2.2.2.2.2.2.2.1 | exact X.2.2.2.2.2.2.2.2.2.1 | exact X.2.2.2.2.2.2.2.2.2.2.2.1 | exact X.2.2.2.2.2.2.2.2.2.2.2.2.2.1 | exact X.2.2.2.2.2.2.2.2.2.2.2.2.2.2.1 | exact X.2.2.2.2.2.2.2.2.2.2.2.2.2.2.2) (Nat.le_of_ble_eq_true rfl) _ (show _ = ups σ 168 (xK 0) from rfl) ?_
  have X := X.asks 0
  refine j_aload_n dX1_answerOf_5 rfl rfl ?_
  refine j_iload_n dX1_answerOf_6 rfl rfl ?_
  refine j_callV (c_kindOfS X.2.2.2.2.2.2.1 hN (by omega) hu hu2) dX1_answerOf_7 rfl mv_X1_19 (by first | exact X.1 | exact X.2.1 | exact X.2.2.2.1 | exact X.2.2.2.2.1 | exact X.2.2.2.2.2.2.1.o | exact X.2.2.2.2.2.2.1.c | exact X.2.2.2.2.2.2.1.i | exact X.2.2.2.2.2.2.1.p | exact X.2.2.2.2.2.2.1.d | exact X.2.2.2.2.2.2.2.1.o | exact X.2.2.2.2.2.2.2.2.1 | exact X.2.2.2.2.2.2.2.2.2.1 | exact X.2.2.2.2.2.2.2.2.2.2.2.1 | exact X.2.2.2.2.2.2.2.2.2.2.2.2.2.1 | exact X.2.2.2.2.2.2.2.2.2.2.2.2.2.2.1 | exact X.2.2.2.2.2.2.2.2.2.2.2.2.2.2.2) rfl ⟨(Nat.le_of_ble_eq_true rfl), (Nat.le_of_ble_eq_true rfl)⟩ ⟨(Nat.le_of_ble_eq_true rfl), (Nat.le_of_ble_eq_true rfl)⟩ (Nat.le_of_ble_eq_true rfl) ?_
  refine j_istore dX1_answerOf_10 (Nat.le_of_ble_eq_true rfl) rfl ?_
  refine j_aload_n dX1_answerOf_12 rfl rfl ?_
  refine j_iload_n dX1_answerOf_13 rfl rfl ?_
  refine j_if_ne 26 dX1_answerOf_14 (by decide) (fun b14 => ?_) (fun b14 => by exact absurd b14 (by decide))
  refine j_gets RX1 "MARK_BODIES" 202 dX1_answerOf_26 fl_X1_28 (fun _ _ h => h.2.2.1.1) ?_
  refine j_iload dX1_answerOf_29 rfl ?_
  refine j_tld 202 tb2 dX1_answerOf_31 (fun _ _ h => h.2.2.1.2) hk (by decide) (nI 24) (by decide) ?_
  refine j_aload_n dX1_answerOf_32 rfl rfl ?_
  refine j_iload_n dX1_answerOf_33 rfl rfl ?_
  refine j_iconst (nI 0) dX1_answerOf_34 rfl ?_
  refine j_callV (c_b24 X hN hp (by decide) (by decide)) dX1_answerOf_35 rfl mv_X1_31 (by first | exact X.1 | exact X.2.1 | exact X.2.2.2.1 | exact X.2.2.2.2.1 | exact X.2.2.2.2.2.2.1.o | exact X.2.2.2.2.2.2.1.c | exact X.2.2.2.2.2.2.1.i | exact X.2.2.2.2.2.2.1.p | exact X.2.2.2.2.2.2.1.d | exact X.2.2.2.2.2.2.2.1.o | exact X.2.2.2.2.2.2.2.2.1 | exact X.2.2.2.2.2.2.2.2.2.1 | exact X.2.2.2.2.2.2.2.2.2.2.2.1 | exact X.2.2.2.2.2.2.2.2.2.2.2.2.2.1 | exact X.2.2.2.2.2.2.2.2.2.2.2.2.2.2.1 | exact X.2.2.2.2.2.2.2.2.2.2.2.2.2.2.2) rfl ⟨(Nat.le_of_ble_eq_true rfl), (Nat.le_of_ble_eq_true rfl)⟩ ⟨(Nat.le_of_ble_eq_true rfl), (Nat.le_of_ble_eq_true rfl)⟩ (Nat.le_of_ble_eq_true rfl) ?_
  rw [show akH (ups σ 168 (xK 0)) (apB bo 0 [24, 22, 21, 20]) (0 + 4) = akH σ (apB bo 0 [24, 22, 21, 20]) 4 from ak0]
  exact j_iret rfl dX1_answerOf_38 rfl rfl (Nat.le_of_ble_eq_true rfl) (Nat.le_of_ble_eq_true rfl)
theorem x_ask_3_1 (X : XR σ lf fd rl rn ri tp rd dd d df nx kp da di tr bo ne) {p : Nat} (hN : sN d ≤ 7) (hp : p < sN d) (hu : 1 ≤ sU d) (hu2 : sU d ≤ 20) (hk : kindI (sD d) (sF d) (sN d) (sU d) p = nI 3) : Ct G yX5_ask cX5_ask 3 (some .int) 9 0 0 z σ [.ref 0, .int (nI p), .int (nI 1)] (some (.int (nI 2 * (nI p + dsum (sD d) (sN d) p - nI 1000)))) z (akH σ (apB bo 0 [24, 22, 21, 20]) 4) := by
  refine Ct.ofJ RX5 rfl [some (.ref 0), some (.int (nI p)), some (.int (nI 1))] rfl (by decide) Nat.le.refl ?_
  refine j_aload_n dX5_ask_0 rfl rfl ?_
  refine j_iload_n dX5_ask_1 rfl rfl ?_
  refine j_callV (c_isNoPerson X (nI p)) dX5_ask_2 rfl mv_X5_155 (by first | exact X.1 | exact X.2.1 | exact X.2.2.2.1 | exact X.2.2.2.2.1 | exact X.2.2.2.2.2.2.1.o | exact X.2.2.2.2.2.2.1.c | exact X.2.2.2.2.2.2.1.i | exact X.2.2.2.2.2.2.1.p | exact X.2.2.2.2.2.2.1.d | exact X.2.2.2.2.2.2.2.1.o | exact X.2.2.2.2.2.2.2.2.1 | exact X.2.2.2.2.2.2.2.2.2.1 | exact X.2.2.2.2.2.2.2.2.2.2.2.1 | exact X.2.2.2.2.2.2.2.2.2.2.2.2.2.1 | exact X.2.2.2.2.2.2.2.2.2.2.2.2.2.2.1 | exact X.2.2.2.2.2.2.2.2.2.2.2.2.2.2.2) rfl ⟨(Nat.le_of_ble_eq_true rfl), (Nat.le_of_ble_eq_true rfl)⟩ ⟨(Nat.le_of_ble_eq_true rfl), (Nat.le_of_ble_eq_true rfl)⟩ (Nat.le_of_ble_eq_true rfl) ?_
  refine j_top (nI 0) (npI_k hp hN) ?_
  refine j_if_ne 17 dX5_ask_5 (by decide) (fun h => absurd rfl h) (fun _ => ?_)
  refine j_iload_n dX5_ask_8 rfl rfl ?_
  refine j_if_lt 17 dX5_ask_9 (by decide) (fun b9 => by exact absurd b9 (by decide)) (fun b9 => ?_)
  refine j_iload_n dX5_ask_12 rfl rfl ?_
  refine j_iconst (nI 1) dX5_ask_13 rfl ?_
  refine j_icmp_le 20 dX5_ask_14 (by decide) (fun b14 => ?_) (fun b14 => by exact absurd (by decide) b14)
  refine j_aload_n dX5_ask_20 rfl rfl ?_
  refine j_getf dX5_ask_21 5 8 rfl (Nat.le_of_ble_eq_true rfl) fl_X5_47 in_5 (by first | exact X.1 | exact X.2.1 | exact X.2.2.2.1 | exact X.2.2.2.2.1 | exact X.2.2.2.2.2.2.1.o | exact X.2.2.2.2.2.2.1.c | exact X.2.2.2.2.2.2.1.i | exact X.2.2.2.2.2.2.1.p | exact X.2.2.2.2.2.2.1.d | exact X.2.2.2.2.2.2.2.1.o | exact X.2.2.2.2.2.2.2.2.1 | exact X.2.2.2.2.2.2.2.2.2.1 | exact X.2.2.2.2.2.2.2.2.2.2.2.1 | exact X.2.2.2.2.2.2.2.2.2.2.2.2.2.1 | exact X.2.2.2.2.2.2.2.2.2.2.2.2.2.2.1 | exact X.2.2.2.2.2.2.2.2.2.2.2.2.2.2.2) rfl ?_
  refine j_aload_n dX5_ask_24 rfl rfl ?_
  refine j_getf dX5_ask_25 5 4 rfl (Nat.le_of_ble_eq_true rfl) fl_X5_26 in_5 (by first | exact X.1 | exact X.2.1 | exact X.2.2.2.1 | exact X.2.2.2.2.1 | exact X.2.2.2.2.2.2.1.o | exact X.2.2.2.2.2.2.1.c | exact X.2.2.2.2.2.2.1.i | exact X.2.2.2.2.2.2.1.p | exact X.2.2.2.2.2.2.1.d | exact X.2.2.2.2.2.2.2.1.o | exact X.2.2.2.2.2.2.2.2.1 | exact X.2.2.2.2.2.2.2.2.2.1 | exact X.2.2.2.2.2.2.2.2.2.2.2.1 | exact X.2.2.2.2.2.2.2.2.2.2.2.2.2.1 | exact X.2.2.2.2.2.2.2.2.2.2.2.2.2.2.1 | exact X.2.2.2.2.2.2.2.2.2.2.2.2.2.2.2) rfl ?_
  refine j_iload_n dX5_ask_28 rfl rfl ?_
  refine j_iload_n dX5_ask_29 rfl rfl ?_
  refine j_callV (c_answerOf_3_1 X hN hp hu hu2 hk) dX5_ask_30 rfl mv_X5_236 (by first | exact X.1 | exact X.2.1 | exact X.2.2.2.1 | exact X.2.2.2.2.1 | exact X.2.2.2.2.2.2.1.o | exact X.2.2.2.2.2.2.1.c | exact X.2.2.2.2.2.2.1.i | exact X.2.2.2.2.2.2.1.p | exact X.2.2.2.2.2.2.1.d | exact X.2.2.2.2.2.2.2.1.o | exact X.2.2.2.2.2.2.2.2.1 | exact X.2.2.2.2.2.2.2.2.2.1 | exact X.2.2.2.2.2.2.2.2.2.2.2.1 | exact X.2.2.2.2.2.2.2.2.2.2.2.2.2.1 | exact X.2.2.2.2.2.2.2.2.2.2.2.2.2.2.1 | exact X.2.2.2.2.2.2.2.2.2.2.2.2.2.2.2) rfl ⟨(Nat.le_of_ble_eq_true rfl), (Nat.le_of_ble_eq_true rfl)⟩ ⟨(Nat.le_of_ble_eq_true rfl), (Nat.le_of_ble_eq_true rfl)⟩ (Nat.le_of_ble_eq_true rfl) ?_
  exact j_iret rfl dX5_ask_33 rfl rfl (Nat.le_of_ble_eq_true rfl) (Nat.le_of_ble_eq_true rfl)
theorem c_answerOf_4_1 (X : XR σ lf fd rl rn ri tp rd dd d df nx kp da di tr bo ne) {p : Nat} (hN : sN d ≤ 7) (hp : p < sN d) (hu : 1 ≤ sU d) (hu2 : sU d ≤ 20) (hk : kindI (sD d) (sF d) (sN d) (sU d) p = nI 4) : Ct G yX1_answerOf cX1_answerOf 5 (some .int) 8 0 0 z σ [.ref 168, .ref 25, .int (nI p), .int (nI 1)] (some (.int (nI p - (sC d p - nI 100)))) z (akH σ (apB bo 0 [23, 20, 13, 10]) 4) := by
  refine Ct.ofJ RX1 rfl [some (.ref 168), some (.ref 25), some (.int (nI p)), some (.int (nI 1)), none] rfl (by decide) (by simp [Value.category]) ?_
  refine j_aload_n dX1_answerOf_0 rfl rfl ?_
  refine j_iconst (nI 0) dX1_answerOf_1 rfl ?_
  refine j_putf dX1_answerOf_2 1 1 rfl (Nat.le_of_ble_eq_true rfl) fl_X1_15 in_1 tyX1 tyX1_ok nmX1 rfl rfl (by first | exact X.1 | exact X.2.1 | exact X.2.2.2.1 | exact X.2.2.2.2.1 | exact X.2.2.2.2.2.2.1.o | exact X.2.2.2.2.2.2.1.c | exact X.2.2.2.2.2.2.1.i | exact X.2.2.2.2.2.2.1.p | exact X.2.2.2.2.2.2.1.d | exact X.2.2.2.2.2.2.2.1.o | exact X.2.2.2.2.2.2.2.2.1 | exact X.2.2.2.2.2.2.2.2.2.1 | exact X.2.2.2.2.2.2.2.2.2.2.2.1 | exact X.2.2.2.2.2.2.2.2.2.2.2.2.2.1 | exact X.2.2.2.2.2.2.2.2.2.2.2.2.2.2.1 | exact X.2.2.2.2.2.2.2.2.2.2.2.2.2.2.2) (Nat.le_of_ble_eq_true rfl) _ (show _ = ups σ 168 (xK 0) from rfl) ?_
  have X := X.asks 0
  refine j_aload_n dX1_answerOf_5 rfl rfl ?_
  refine j_iload_n dX1_answerOf_6 rfl rfl ?_
  refine j_callV (c_kindOfS X.2.2.2.2.2.2.1 hN (by omega) hu hu2) dX1_answerOf_7 rfl mv_X1_19 (by first | exact X.1 | exact X.2.1 | exact X.2.2.2.1 | exact X.2.2.2.2.1 | exact X.2.2.2.2.2.2.1.o | exact X.2.2.2.2.2.2.1.c | exact X.2.2.2.2.2.2.1.i | exact X.2.2.2.2.2.2.1.p | exact X.2.2.2.2.2.2.1.d | exact X.2.2.2.2.2.2.2.1.o | exact X.2.2.2.2.2.2.2.2.1 | exact X.2.2.2.2.2.2.2.2.2.1 | exact X.2.2.2.2.2.2.2.2.2.2.2.1 | exact X.2.2.2.2.2.2.2.2.2.2.2.2.2.1 | exact X.2.2.2.2.2.2.2.2.2.2.2.2.2.2.1 | exact X.2.2.2.2.2.2.2.2.2.2.2.2.2.2.2) rfl ⟨(Nat.le_of_ble_eq_true rfl), (Nat.le_of_ble_eq_true rfl)⟩ ⟨(Nat.le_of_ble_eq_true rfl), (Nat.le_of_ble_eq_true rfl)⟩ (Nat.le_of_ble_eq_true rfl) ?_
  refine j_istore dX1_answerOf_10 (Nat.le_of_ble_eq_true rfl) rfl ?_
  refine j_aload_n dX1_answerOf_12 rfl rfl ?_
  refine j_iload_n dX1_answerOf_13 rfl rfl ?_
  refine j_if_ne 26 dX1_answerOf_14 (by decide) (fun b14 => ?_) (fun b14 => by exact absurd b14 (by decide))
  refine j_gets RX1 "MARK_BODIES" 202 dX1_answerOf_26 fl_X1_28 (fun _ _ h => h.2.2.1.1) ?_
  refine j_iload dX1_answerOf_29 rfl ?_
  refine j_tld 202 tb2 dX1_answerOf_31 (fun _ _ h => h.2.2.1.2) hk (by decide) (nI 23) (by decide) ?_
  refine j_aload_n dX1_answerOf_32 rfl rfl ?_
  refine j_iload_n dX1_answerOf_33 rfl rfl ?_
  refine j_iconst (nI 0) dX1_answerOf_34 rfl ?_
  refine j_callV (c_b23_4 X hN hp hu hu2 hk (by decide) (by decide)) dX1_answerOf_35 rfl mv_X1_31 (by first | exact X.1 | exact X.2.1 | exact X.2.2.2.1 | exact X.2.2.2.2.1 | exact X.2.2.2.2.2.2.1.o | exact X.2.2.2.2.2.2.1.c | exact X.2.2.2.2.2.2.1.i | exact X.2.2.2.2.2.2.1.p | exact X.2.2.2.2.2.2.1.d | exact X.2.2.2.2.2.2.2.1.o | exact X.2.2.2.2.2.2.2.2.1 | exact X.2.2.2.2.2.2.2.2.2.1 | exact X.2.2.2.2.2.2.2.2.2.2.2.1 | exact X.2.2.2.2.2.2.2.2.2.2.2.2.2.1 | exact X.2.2.2.2.2.2.2.2.2.2.2.2.2.2.1 | exact X.2.2.2.2.2.2.2.2.2.2.2.2.2.2.2) rfl ⟨(Nat.le_of_ble_eq_true rfl), (Nat.le_of_ble_eq_true rfl)⟩ ⟨(Nat.le_of_ble_eq_true rfl), (Nat.le_of_ble_eq_true rfl)⟩ (Nat.le_of_ble_eq_true rfl) ?_
  rw [show akH (ups σ 168 (xK 0)) (apB bo 0 [23, 20, 13, 10]) (0 + 4) = akH σ (apB bo 0 [23, 20, 13, 10]) 4 from ak0]
  exact j_iret rfl dX1_answerOf_38 rfl rfl (Nat.le_of_ble_eq_true rfl) (Nat.le_of_ble_eq_true rfl)
theorem x_ask_4_1 (X : XR σ lf fd rl rn ri tp rd dd d df nx kp da di tr bo ne) {p : Nat} (hN : sN d ≤ 7) (hp : p < sN d) (hu : 1 ≤ sU d) (hu2 : sU d ≤ 20) (hk : kindI (sD d) (sF d) (sN d) (sU d) p = nI 4) : Ct G yX5_ask cX5_ask 3 (some .int) 9 0 0 z σ [.ref 0, .int (nI p), .int (nI 1)] (some (.int (nI p - (sC d p - nI 100)))) z (akH σ (apB bo 0 [23, 20, 13, 10]) 4) := by
  refine Ct.ofJ RX5 rfl [some (.ref 0), some (.int (nI p)), some (.int (nI 1))] rfl (by decide) Nat.le.refl ?_
  refine j_aload_n dX5_ask_0 rfl rfl ?_
  refine j_iload_n dX5_ask_1 rfl rfl ?_
  refine j_callV (c_isNoPerson X (nI p)) dX5_ask_2 rfl mv_X5_155 (by first | exact X.1 | exact X.2.1 | exact X.2.2.2.1 | exact X.2.2.2.2.1 | exact X.2.2.2.2.2.2.1.o | exact X.2.2.2.2.2.2.1.c | exact X.2.2.2.2.2.2.1.i | exact X.2.2.2.2.2.2.1.p | exact X.2.2.2.2.2.2.1.d | exact X.2.2.2.2.2.2.2.1.o | exact X.2.2.2.2.2.2.2.2.1 | exact X.2.2.2.2.2.2.2.2.2.1 | exact X.2.2.2.2.2.2.2.2.2.2.2.1 | exact X.2.2.2.2.2.2.2.2.2.2.2.2.2.1 | exact X.2.2.2.2.2.2.2.2.2.2.2.2.2.2.1 | exact X.2.2.2.2.2.2.2.2.2.2.2.2.2.2.2) rfl ⟨(Nat.le_of_ble_eq_true rfl), (Nat.le_of_ble_eq_true rfl)⟩ ⟨(Nat.le_of_ble_eq_true rfl), (Nat.le_of_ble_eq_true rfl)⟩ (Nat.le_of_ble_eq_true rfl) ?_
  refine j_top (nI 0) (npI_k hp hN) ?_
  refine j_if_ne 17 dX5_ask_5 (by decide) (fun h => absurd rfl h) (fun _ => ?_)
  refine j_iload_n dX5_ask_8 rfl rfl ?_
  refine j_if_lt 17 dX5_ask_9 (by decide) (fun b9 => by exact absurd b9 (by decide)) (fun b9 => ?_)
  refine j_iload_n dX5_ask_12 rfl rfl ?_
  refine j_iconst (nI 1) dX5_ask_13 rfl ?_
  refine j_icmp_le 20 dX5_ask_14 (by decide) (fun b14 => ?_) (fun b14 => by exact absurd (by decide) b14)
  refine j_aload_n dX5_ask_20 rfl rfl ?_
  refine j_getf dX5_ask_21 5 8 rfl (Nat.le_of_ble_eq_true rfl) fl_X5_47 in_5 (by first | exact X.1 | exact X.2.1 | exact X.2.2.2.1 | exact X.2.2.2.2.1 | exact X.2.2.2.2.2.2.1.o | exact X.2.2.2.2.2.2.1.c | exact X.2.2.2.2.2.2.1.i | exact X.2.2.2.2.2.2.1.p | exact X.2.2.2.2.2.2.1.d | exact X.2.2.2.2.2.2.2.1.o | exact X.2.2.2.2.2.2.2.2.1 | exact X.2.2.2.2.2.2.2.2.2.1 | exact X.2.2.2.2.2.2.2.2.2.2.2.1 | exact X.2.2.2.2.2.2.2.2.2.2.2.2.2.1 | exact X.2.2.2.2.2.2.2.2.2.2.2.2.2.2.1 | exact X.2.2.2.2.2.2.2.2.2.2.2.2.2.2.2) rfl ?_
  refine j_aload_n dX5_ask_24 rfl rfl ?_
  refine j_getf dX5_ask_25 5 4 rfl (Nat.le_of_ble_eq_true rfl) fl_X5_26 in_5 (by first | exact X.1 | exact X.2.1 | exact X.2.2.2.1 | exact X.2.2.2.2.1 | exact X.2.2.2.2.2.2.1.o | exact X.2.2.2.2.2.2.1.c | exact X.2.2.2.2.2.2.1.i | exact X.2.2.2.2.2.2.1.p | exact X.2.2.2.2.2.2.1.d | exact X.2.2.2.2.2.2.2.1.o | exact X.2.2.2.2.2.2.2.2.1 | exact X.2.2.2.2.2.2.2.2.2.1 | exact X.2.2.2.2.2.2.2.2.2.2.2.1 | exact X.2.2.2.2.2.2.2.2.2.2.2.2.2.1 | exact X.2.2.2.2.2.2.2.2.2.2.2.2.2.2.1 | exact X.2.2.2.2.2.2.2.2.2.2.2.2.2.2.2) rfl ?_
  refine j_iload_n dX5_ask_28 rfl rfl ?_
  refine j_iload_n dX5_ask_29 rfl rfl ?_
  refine j_callV (c_answerOf_4_1 X hN hp hu hu2 hk) dX5_ask_30 rfl mv_X5_236 (by first | exact X.1 | exact X.2.1 | exact X.2.2.2.1 | exact X.2.2.2.2.1 | exact X.2.2.2.2.2.2.1.o | exact X.2.2.2.2.2.2.1.c | exact X.2.2.2.2.2.2.1.i | exact X.2.2.2.2.2.2.1.p | exact X.2.2.2.2.2.2.1.d | exact X.2.2.2.2.2.2.2.1.o | exact X.2.2.2.2.2.2.2.2.1 | exact X.2.2.2.2.2.2.2.2.2.1 | exact X.2.2.2.2.2.2.2.2.2.2.2.1 | exact X.2.2.2.2.2.2.2.2.2.2.2.2.2.1 | exact X.2.2.2.2.2.2.2.2.2.2.2.2.2.2.1 | exact X.2.2.2.2.2.2.2.2.2.2.2.2.2.2.2) rfl ⟨(Nat.le_of_ble_eq_true rfl), (Nat.le_of_ble_eq_true rfl)⟩ ⟨(Nat.le_of_ble_eq_true rfl), (Nat.le_of_ble_eq_true rfl)⟩ (Nat.le_of_ble_eq_true rfl) ?_
  exact j_iret rfl dX5_ask_33 rfl rfl (Nat.le_of_ble_eq_true rfl) (Nat.le_of_ble_eq_true rfl)
theorem c_answerOf_5_1 (X : XR σ lf fd rl rn ri tp rd dd d df nx kp da di tr bo ne) {p : Nat} (hN : sN d ≤ 7) (hp : p < sN d) (hu : 1 ≤ sU d) (hu2 : sU d ≤ 20) (hk : kindI (sD d) (sF d) (sN d) (sU d) p = nI 5) : Ct G yX1_answerOf cX1_answerOf 5 (some .int) 8 0 0 z σ [.ref 168, .ref 25, .int (nI p), .int (nI 1)] (some (.int (nI p - (nI 2 * (sC d p - nI 100))))) z (akH σ (apB bo 0 [23, 20, 14, 13, 10]) 5) := by
  refine Ct.ofJ RX1 rfl [some (.ref 168), some (.ref 25), some (.int (nI p)), some (.int (nI 1)), none] rfl (by decide) (by simp [Value.category]) ?_
  refine j_aload_n dX1_answerOf_0 rfl rfl ?_
  refine j_iconst (nI 0) dX1_answerOf_1 rfl ?_
  refine j_putf dX1_answerOf_2 1 1 rfl (Nat.le_of_ble_eq_true rfl) fl_X1_15 in_1 tyX1 tyX1_ok nmX1 rfl rfl (by first | exact X.1 | exact X.2.1 | exact X.2.2.2.1 | exact X.2.2.2.2.1 | exact X.2.2.2.2.2.2.1.o | exact X.2.2.2.2.2.2.1.c | exact X.2.2.2.2.2.2.1.i | exact X.2.2.2.2.2.2.1.p | exact X.2.2.2.2.2.2.1.d | exact X.2.2.2.2.2.2.2.1.o | exact X.2.2.2.2.2.2.2.2.1 | exact X.2.2.2.2.2.2.2.2.2.1 | exact X.2.2.2.2.2.2.2.2.2.2.2.1 | exact X.2.2.2.2.2.2.2.2.2.2.2.2.2.1 | exact X.2.2.2.2.2.2.2.2.2.2.2.2.2.2.1 | exact X.2.2.2.2.2.2.2.2.2.2.2.2.2.2.2) (Nat.le_of_ble_eq_true rfl) _ (show _ = ups σ 168 (xK 0) from rfl) ?_
  have X := X.asks 0
  refine j_aload_n dX1_answerOf_5 rfl rfl ?_
  refine j_iload_n dX1_answerOf_6 rfl rfl ?_
  refine j_callV (c_kindOfS X.2.2.2.2.2.2.1 hN (by omega) hu hu2) dX1_answerOf_7 rfl mv_X1_19 (by first | exact X.1 | exact X.2.1 | exact X.2.2.2.1 | exact X.2.2.2.2.1 | exact X.2.2.2.2.2.2.1.o | exact X.2.2.2.2.2.2.1.c | exact X.2.2.2.2.2.2.1.i | exact X.2.2.2.2.2.2.1.p | exact X.2.2.2.2.2.2.1.d | exact X.2.2.2.2.2.2.2.1.o | exact X.2.2.2.2.2.2.2.2.1 | exact X.2.2.2.2.2.2.2.2.2.1 | exact X.2.2.2.2.2.2.2.2.2.2.2.1 | exact X.2.2.2.2.2.2.2.2.2.2.2.2.2.1 | exact X.2.2.2.2.2.2.2.2.2.2.2.2.2.2.1 | exact X.2.2.2.2.2.2.2.2.2.2.2.2.2.2.2) rfl ⟨(Nat.le_of_ble_eq_true rfl), (Nat.le_of_ble_eq_true rfl)⟩ ⟨(Nat.le_of_ble_eq_true rfl), (Nat.le_of_ble_eq_true rfl)⟩ (Nat.le_of_ble_eq_true rfl) ?_
  refine j_istore dX1_answerOf_10 (Nat.le_of_ble_eq_true rfl) rfl ?_
  refine j_aload_n dX1_answerOf_12 rfl rfl ?_
  refine j_iload_n dX1_answerOf_13 rfl rfl ?_
  refine j_if_ne 26 dX1_answerOf_14 (by decide) (fun b14 => ?_) (fun b14 => by exact absurd b14 (by decide))
  refine j_gets RX1 "MARK_BODIES" 202 dX1_answerOf_26 fl_X1_28 (fun _ _ h => h.2.2.1.1) ?_
  refine j_iload dX1_answerOf_29 rfl ?_
  refine j_tld 202 tb2 dX1_answerOf_31 (fun _ _ h => h.2.2.1.2) hk (by decide) (nI 23) (by decide) ?_
  refine j_aload_n dX1_answerOf_32 rfl rfl ?_
  refine j_iload_n dX1_answerOf_33 rfl rfl ?_
  refine j_iconst (nI 0) dX1_answerOf_34 rfl ?_
  refine j_callV (c_b23_5 X hN hp hu hu2 hk (by decide) (by decide)) dX1_answerOf_35 rfl mv_X1_31 (by first | exact X.1 | exact X.2.1 | exact X.2.2.2.1 | exact X.2.2.2.2.1 | exact X.2.2.2.2.2.2.1.o | exact X.2.2.2.2.2.2.1.c | exact X.2.2.2.2.2.2.1.i | exact X.2.2.2.2.2.2.1.p | exact X.2.2.2.2.2.2.1.d | exact X.2.2.2.2.2.2.2.1.o | exact X.2.2.2.2.2.2.2.2.1 | exact X.2.2.2.2.2.2.2.2.2.1 | exact X.2.2.2.2.2.2.2.2.2.2.2.1 | exact X.2.2.2.2.2.2.2.2.2.2.2.2.2.1 | exact X.2.2.2.2.2.2.2.2.2.2.2.2.2.2.1 | exact X.2.2.2.2.2.2.2.2.2.2.2.2.2.2.2) rfl ⟨(Nat.le_of_ble_eq_true rfl), (Nat.le_of_ble_eq_true rfl)⟩ ⟨(Nat.le_of_ble_eq_true rfl), (Nat.le_of_ble_eq_true rfl)⟩ (Nat.le_of_ble_eq_true rfl) ?_
  rw [show akH (ups σ 168 (xK 0)) (apB bo 0 [23, 20, 14, 13, 10]) (0 + 5) = akH σ (apB bo 0 [23, 20, 14, 13, 10]) 5 from ak0]
  exact j_iret rfl dX1_answerOf_38 rfl rfl (Nat.le_of_ble_eq_true rfl) (Nat.le_of_ble_eq_true rfl)
theorem x_ask_5_1 (X : XR σ lf fd rl rn ri tp rd dd d df nx kp da di tr bo ne) {p : Nat} (hN : sN d ≤ 7) (hp : p < sN d) (hu : 1 ≤ sU d) (hu2 : sU d ≤ 20) (hk : kindI (sD d) (sF d) (sN d) (sU d) p = nI 5) : Ct G yX5_ask cX5_ask 3 (some .int) 9 0 0 z σ [.ref 0, .int (nI p), .int (nI 1)] (some (.int (nI p - (nI 2 * (sC d p - nI 100))))) z (akH σ (apB bo 0 [23, 20, 14, 13, 10]) 5) := by
  refine Ct.ofJ RX5 rfl [some (.ref 0), some (.int (nI p)), some (.int (nI 1))] rfl (by decide) Nat.le.refl ?_
  refine j_aload_n dX5_ask_0 rfl rfl ?_
  refine j_iload_n dX5_ask_1 rfl rfl ?_
  refine j_callV (c_isNoPerson X (nI p)) dX5_ask_2 rfl mv_X5_155 (by first | exact X.1 | exact X.2.1 | exact X.2.2.2.1 | exact X.2.2.2.2.1 | exact X.2.2.2.2.2.2.1.o | exact X.2.2.2.2.2.2.1.c | exact X.2.2.2.2.2.2.1.i | exact X.2.2.2.2.2.2.1.p | exact X.2.2.2.2.2.2.1.d | exact X.2.2.2.2.2.2.2.1.o | exact X.2.2.2.2.2.2.2.2.1 | exact X.2.2.2.2.2.2.2.2.2.1 | exact X.2.2.2.2.2.2.2.2.2.2.2.1 | exact X.2.2.2.2.2.2.2.2.2.2.2.2.2.1 | exact X.2.2.2.2.2.2.2.2.2.2.2.2.2.2.1 | exact X.2.2.2.2.2.2.2.2.2.2.2.2.2.2.2) rfl ⟨(Nat.le_of_ble_eq_true rfl), (Nat.le_of_ble_eq_true rfl)⟩ ⟨(Nat.le_of_ble_eq_true rfl), (Nat.le_of_ble_eq_true rfl)⟩ (Nat.le_of_ble_eq_true rfl) ?_
  refine j_top (nI 0) (npI_k hp hN) ?_
  refine j_if_ne 17 dX5_ask_5 (by decide) (fun h => absurd rfl h) (fun _ => ?_)
  refine j_iload_n dX5_ask_8 rfl rfl ?_
  refine j_if_lt 17 dX5_ask_9 (by decide) (fun b9 => by exact absurd b9 (by decide)) (fun b9 => ?_)
  refine j_iload_n dX5_ask_12 rfl rfl ?_
  refine j_iconst (nI 1) dX5_ask_13 rfl ?_
  refine j_icmp_le 20 dX5_ask_14 (by decide) (fun b14 => ?_) (fun b14 => by exact absurd (by decide) b14)
  refine j_aload_n dX5_ask_20 rfl rfl ?_
  refine j_getf dX5_ask_21 5 8 rfl (Nat.le_of_ble_eq_true rfl) fl_X5_47 in_5 (by first | exact X.1 | exact X.2.1 | exact X.2.2.2.1 | exact X.2.2.2.2.1 | exact X.2.2.2.2.2.2.1.o | exact X.2.2.2.2.2.2.1.c | exact X.2.2.2.2.2.2.1.i | exact X.2.2.2.2.2.2.1.p | exact X.2.2.2.2.2.2.1.d | exact X.2.2.2.2.2.2.2.1.o | exact X.2.2.2.2.2.2.2.2.1 | exact X.2.2.2.2.2.2.2.2.2.1 | exact X.2.2.2.2.2.2.2.2.2.2.2.1 | exact X.2.2.2.2.2.2.2.2.2.2.2.2.2.1 | exact X.2.2.2.2.2.2.2.2.2.2.2.2.2.2.1 | exact X.2.2.2.2.2.2.2.2.2.2.2.2.2.2.2) rfl ?_
  refine j_aload_n dX5_ask_24 rfl rfl ?_
  refine j_getf dX5_ask_25 5 4 rfl (Nat.le_of_ble_eq_true rfl) fl_X5_26 in_5 (by first | exact X.1 | exact X.2.1 | exact X.2.2.2.1 | exact X.2.2.2.2.1 | exact X.2.2.2.2.2.2.1.o | exact X.2.2.2.2.2.2.1.c | exact X.2.2.2.2.2.2.1.i | exact X.2.2.2.2.2.2.1.p | exact X.2.2.2.2.2.2.1.d | exact X.2.2.2.2.2.2.2.1.o | exact X.2.2.2.2.2.2.2.2.1 | exact X.2.2.2.2.2.2.2.2.2.1 | exact X.2.2.2.2.2.2.2.2.2.2.2.1 | exact X.2.2.2.2.2.2.2.2.2.2.2.2.2.1 | exact X.2.2.2.2.2.2.2.2.2.2.2.2.2.2.1 | exact X.2.2.2.2.2.2.2.2.2.2.2.2.2.2.2) rfl ?_
  refine j_iload_n dX5_ask_28 rfl rfl ?_
  refine j_iload_n dX5_ask_29 rfl rfl ?_
  refine j_callV (c_answerOf_5_1 X hN hp hu hu2 hk) dX5_ask_30 rfl mv_X5_236 (by first | exact X.1 | exact X.2.1 | exact X.2.2.2.1 | exact X.2.2.2.2.1 | exact X.2.2.2.2.2.2.1.o | exact X.2.2.2.2.2.2.1.c | exact X.2.2.2.2.2.2.1.i | exact X.2.2.2.2.2.2.1.p | exact X.2.2.2.2.2.2.1.d | exact X.2.2.2.2.2.2.2.1.o | exact X.2.2.2.2.2.2.2.2.1 | exact X.2.2.2.2.2.2.2.2.2.1 | exact X.2.2.2.2.2.2.2.2.2.2.2.1 | exact X.2.2.2.2.2.2.2.2.2.2.2.2.2.1 | exact X.2.2.2.2.2.2.2.2.2.2.2.2.2.2.1 | exact X.2.2.2.2.2.2.2.2.2.2.2.2.2.2.2) rfl ⟨(Nat.le_of_ble_eq_true rfl), (Nat.le_of_ble_eq_true rfl)⟩ ⟨(Nat.le_of_ble_eq_true rfl), (Nat.le_of_ble_eq_true rfl)⟩ (Nat.le_of_ble_eq_true rfl) ?_
  exact j_iret rfl dX5_ask_33 rfl rfl (Nat.le_of_ble_eq_true rfl) (Nat.le_of_ble_eq_true rfl)
end K1
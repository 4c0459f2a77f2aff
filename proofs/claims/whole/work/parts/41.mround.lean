-- java/lang/Integer.rotateRight(II)I
theorem dJ6_rotateRight_7cf53_0 : decode cJ6_rotateRight_7cf53 0 = .ok (.iload_n 0, 1) := by decide +kernel
theorem dJ6_rotateRight_7cf53_1 : decode cJ6_rotateRight_7cf53 1 = .ok (.iload_n 1, 1) := by decide +kernel
theorem dJ6_rotateRight_7cf53_2 : decode cJ6_rotateRight_7cf53 2 = .ok (.iushr, 1) := by decide +kernel
theorem dJ6_rotateRight_7cf53_3 : decode cJ6_rotateRight_7cf53 3 = .ok (.iload_n 0, 1) := by decide +kernel
theorem dJ6_rotateRight_7cf53_4 : decode cJ6_rotateRight_7cf53 4 = .ok (.iload_n 1, 1) := by decide +kernel
theorem dJ6_rotateRight_7cf53_5 : decode cJ6_rotateRight_7cf53 5 = .ok (.ineg, 1) := by decide +kernel
theorem dJ6_rotateRight_7cf53_6 : decode cJ6_rotateRight_7cf53 6 = .ok (.ishl, 1) := by decide +kernel
theorem dJ6_rotateRight_7cf53_7 : decode cJ6_rotateRight_7cf53 7 = .ok (.ior, 1) := by decide +kernel
theorem dJ6_rotateRight_7cf53_8 : decode cJ6_rotateRight_7cf53 8 = .ok (.ireturn, 1) := by decide +kernel
theorem hyJ6_rotateRight_7cf53 : yJ6_rotateRight_7cf53.cls ≠ "java/lang/invoke/MethodHandle" ∧ yJ6_rotateRight_7cf53.cls ≠ "java/lang/invoke/VarHandle" ∧ (parseMethodDescriptor yJ6_rotateRight_7cf53.desc).map (fun d => d.parameters.length) = some 2 := by decide +kernel
def S_J6_rotateRight_7cf53 (u : gx_S) (v0 : Int32) (v1 : Int32) (post : Int32 → gx_S → Prop) : Prop := post (((v0.toUInt32 >>> (v1.toUInt32 &&& Int32.toUInt32 31)).toInt32) ||| (v0 <<< ((-v1) &&& 31))) u
set_option maxHeartbeats 4000000 in
set_option maxRecDepth 100000 in
theorem w_J6_rotateRight_7cf53 {E : gx_E} (X : gx_X E cJ6_rotateRight_7cf53 2 RJ6 (some .int)) (hd : 0 ≤ ex_d E) {post : Int32 → gx_S → Prop} (hQ : ex_Q E = va_Qi post (gx_B (ex_Z E)) (gx_A (ex_Z E))) {u : gx_S} {v0 : Int32} {v1 : Int32} (h : S_J6_rotateRight_7cf53 u v0 v1 post) : gx_Wc E 2 0 [(0, .int v0), (1, .int v1)] [] u := by
  unfold S_J6_rotateRight_7cf53 at h
  refine gx_iload_n X (j := 0) dJ6_rotateRight_7cf53_0 rfl rfl ?_
  refine gx_iload_n X (j := 1) dJ6_rotateRight_7cf53_1 rfl rfl ?_
  refine gx_iushr X (v := (v0.toUInt32 >>> (v1.toUInt32 &&& Int32.toUInt32 31)).toInt32) dJ6_rotateRight_7cf53_2 rfl ?_
  refine gx_iload_n X (j := 0) dJ6_rotateRight_7cf53_3 rfl rfl ?_
  refine gx_iload_n X (j := 1) dJ6_rotateRight_7cf53_4 rfl rfl ?_
  refine gx_ineg X dJ6_rotateRight_7cf53_5 ?_
  refine gx_ishl X dJ6_rotateRight_7cf53_6 ?_
  refine gx_ior X dJ6_rotateRight_7cf53_7 ?_
  exact gx_iret X hQ h dJ6_rotateRight_7cf53_8
theorem c_J6_rotateRight_7cf53 {l : Launch} {Z : gx_Z} {u : gx_S} {v0 : Int32} {v1 : Int32} {post : Int32 → gx_S → Prop} (h : S_J6_rotateRight_7cf53 u v0 v1 post) : Met l yJ6_rotateRight_7cf53 (Cond.code yJ6_rotateRight_7cf53 cJ6_rotateRight_7cf53 2 (some .int) :: gx_TB) (gx_rm 0) (gx_Pre Z u [.int v0, .int v1]) (va_Qi post (gx_B Z) (gx_A Z)) 0 0 (gx_A Z) := by
  refine gx_met (by decide +kernel) (Nat.le_of_ble_eq_true rfl) ?_
  intro E X hZ hQ hD hL
  subst hZ
  exact w_J6_rotateRight_7cf53 X (Nat.le_of_eq hD.symm) hQ h
-- PlainSealModel$Hash.round()V
theorem dX7_round_0 : decode cX7_round 0 = .ok (.iconst 0, 1) := by decide +kernel
theorem dX7_round_1 : decode cX7_round 1 = .ok (.istore_n 1, 1) := by decide +kernel
theorem dX7_round_2 : decode cX7_round 2 = .ok (.iload_n 1, 1) := by decide +kernel
theorem dX7_round_3 : decode cX7_round 3 = .ok (.bipush 16, 2) := by decide +kernel
theorem dX7_round_5 : decode cX7_round 5 = .ok (.if_icmp .ge 77, 3) := by decide +kernel
theorem dX7_round_8 : decode cX7_round 8 = .ok (.aload_n 0, 1) := by decide +kernel
theorem dX7_round_9 : decode cX7_round 9 = .ok (.getfield 16, 3) := by decide +kernel
theorem dX7_round_12 : decode cX7_round 12 = .ok (.iload_n 1, 1) := by decide +kernel
theorem dX7_round_13 : decode cX7_round 13 = .ok (.aload_n 0, 1) := by decide +kernel
theorem dX7_round_14 : decode cX7_round 14 = .ok (.getfield 22, 3) := by decide +kernel
theorem dX7_round_17 : decode cX7_round 17 = .ok (.iconst 4, 1) := by decide +kernel
theorem dX7_round_18 : decode cX7_round 18 = .ok (.iload_n 1, 1) := by decide +kernel
theorem dX7_round_19 : decode cX7_round 19 = .ok (.imul, 1) := by decide +kernel
theorem dX7_round_20 : decode cX7_round 20 = .ok (.baload, 1) := by decide +kernel
theorem dX7_round_21 : decode cX7_round 21 = .ok (.bipush 24, 2) := by decide +kernel
theorem dX7_round_23 : decode cX7_round 23 = .ok (.ishl, 1) := by decide +kernel
theorem dX7_round_24 : decode cX7_round 24 = .ok (.aload_n 0, 1) := by decide +kernel
theorem dX7_round_25 : decode cX7_round 25 = .ok (.getfield 22, 3) := by decide +kernel
theorem dX7_round_28 : decode cX7_round 28 = .ok (.iconst 4, 1) := by decide +kernel
theorem dX7_round_29 : decode cX7_round 29 = .ok (.iload_n 1, 1) := by decide +kernel
theorem dX7_round_30 : decode cX7_round 30 = .ok (.imul, 1) := by decide +kernel
theorem dX7_round_31 : decode cX7_round 31 = .ok (.iconst 1, 1) := by decide +kernel
theorem dX7_round_32 : decode cX7_round 32 = .ok (.iadd, 1) := by decide +kernel
theorem dX7_round_33 : decode cX7_round 33 = .ok (.baload, 1) := by decide +kernel
theorem dX7_round_34 : decode cX7_round 34 = .ok (.sipush 255, 3) := by decide +kernel
theorem dX7_round_37 : decode cX7_round 37 = .ok (.iand, 1) := by decide +kernel
theorem dX7_round_38 : decode cX7_round 38 = .ok (.bipush 16, 2) := by decide +kernel
theorem dX7_round_40 : decode cX7_round 40 = .ok (.ishl, 1) := by decide +kernel
theorem dX7_round_41 : decode cX7_round 41 = .ok (.ior, 1) := by decide +kernel
theorem dX7_round_42 : decode cX7_round 42 = .ok (.aload_n 0, 1) := by decide +kernel
theorem dX7_round_43 : decode cX7_round 43 = .ok (.getfield 22, 3) := by decide +kernel
theorem dX7_round_46 : decode cX7_round 46 = .ok (.iconst 4, 1) := by decide +kernel
theorem dX7_round_47 : decode cX7_round 47 = .ok (.iload_n 1, 1) := by decide +kernel
theorem dX7_round_48 : decode cX7_round 48 = .ok (.imul, 1) := by decide +kernel
theorem dX7_round_49 : decode cX7_round 49 = .ok (.iconst 2, 1) := by decide +kernel
theorem dX7_round_50 : decode cX7_round 50 = .ok (.iadd, 1) := by decide +kernel
theorem dX7_round_51 : decode cX7_round 51 = .ok (.baload, 1) := by decide +kernel
theorem dX7_round_52 : decode cX7_round 52 = .ok (.sipush 255, 3) := by decide +kernel
theorem dX7_round_55 : decode cX7_round 55 = .ok (.iand, 1) := by decide +kernel
theorem dX7_round_56 : decode cX7_round 56 = .ok (.bipush 8, 2) := by decide +kernel
theorem dX7_round_58 : decode cX7_round 58 = .ok (.ishl, 1) := by decide +kernel
theorem dX7_round_59 : decode cX7_round 59 = .ok (.ior, 1) := by decide +kernel
theorem dX7_round_60 : decode cX7_round 60 = .ok (.aload_n 0, 1) := by decide +kernel
theorem dX7_round_61 : decode cX7_round 61 = .ok (.getfield 22, 3) := by decide +kernel
theorem dX7_round_64 : decode cX7_round 64 = .ok (.iconst 4, 1) := by decide +kernel
theorem dX7_round_65 : decode cX7_round 65 = .ok (.iload_n 1, 1) := by decide +kernel
theorem dX7_round_66 : decode cX7_round 66 = .ok (.imul, 1) := by decide +kernel
theorem dX7_round_67 : decode cX7_round 67 = .ok (.iconst 3, 1) := by decide +kernel
theorem dX7_round_68 : decode cX7_round 68 = .ok (.iadd, 1) := by decide +kernel
theorem dX7_round_69 : decode cX7_round 69 = .ok (.baload, 1) := by decide +kernel
theorem dX7_round_70 : decode cX7_round 70 = .ok (.sipush 255, 3) := by decide +kernel
theorem dX7_round_73 : decode cX7_round 73 = .ok (.iand, 1) := by decide +kernel
theorem dX7_round_74 : decode cX7_round 74 = .ok (.ior, 1) := by decide +kernel
theorem dX7_round_75 : decode cX7_round 75 = .ok (.iastore, 1) := by decide +kernel
theorem dX7_round_76 : decode cX7_round 76 = .ok (.iinc 1 1, 3) := by decide +kernel
theorem dX7_round_79 : decode cX7_round 79 = .ok (.goto (-77), 3) := by decide +kernel
theorem dX7_round_82 : decode cX7_round 82 = .ok (.bipush 16, 2) := by decide +kernel
theorem dX7_round_84 : decode cX7_round 84 = .ok (.istore_n 1, 1) := by decide +kernel
theorem dX7_round_85 : decode cX7_round 85 = .ok (.iload_n 1, 1) := by decide +kernel
theorem dX7_round_86 : decode cX7_round 86 = .ok (.bipush 64, 2) := by decide +kernel
theorem dX7_round_88 : decode cX7_round 88 = .ok (.if_icmp .ge 90, 3) := by decide +kernel
theorem dX7_round_91 : decode cX7_round 91 = .ok (.aload_n 0, 1) := by decide +kernel
theorem dX7_round_92 : decode cX7_round 92 = .ok (.getfield 16, 3) := by decide +kernel
theorem dX7_round_95 : decode cX7_round 95 = .ok (.iload_n 1, 1) := by decide +kernel
theorem dX7_round_96 : decode cX7_round 96 = .ok (.bipush 15, 2) := by decide +kernel
theorem dX7_round_98 : decode cX7_round 98 = .ok (.isub, 1) := by decide +kernel
theorem dX7_round_99 : decode cX7_round 99 = .ok (.iaload, 1) := by decide +kernel
theorem dX7_round_100 : decode cX7_round 100 = .ok (.istore_n 2, 1) := by decide +kernel
theorem dX7_round_101 : decode cX7_round 101 = .ok (.aload_n 0, 1) := by decide +kernel
theorem dX7_round_102 : decode cX7_round 102 = .ok (.getfield 16, 3) := by decide +kernel
theorem dX7_round_105 : decode cX7_round 105 = .ok (.iload_n 1, 1) := by decide +kernel
theorem dX7_round_106 : decode cX7_round 106 = .ok (.iconst 2, 1) := by decide +kernel
theorem dX7_round_107 : decode cX7_round 107 = .ok (.isub, 1) := by decide +kernel
theorem dX7_round_108 : decode cX7_round 108 = .ok (.iaload, 1) := by decide +kernel
theorem dX7_round_109 : decode cX7_round 109 = .ok (.istore_n 3, 1) := by decide +kernel
theorem dX7_round_110 : decode cX7_round 110 = .ok (.aload_n 0, 1) := by decide +kernel
theorem dX7_round_111 : decode cX7_round 111 = .ok (.getfield 16, 3) := by decide +kernel
theorem dX7_round_114 : decode cX7_round 114 = .ok (.iload_n 1, 1) := by decide +kernel
theorem dX7_round_115 : decode cX7_round 115 = .ok (.aload_n 0, 1) := by decide +kernel
theorem dX7_round_116 : decode cX7_round 116 = .ok (.getfield 16, 3) := by decide +kernel
theorem dX7_round_119 : decode cX7_round 119 = .ok (.iload_n 1, 1) := by decide +kernel
theorem dX7_round_120 : decode cX7_round 120 = .ok (.bipush 16, 2) := by decide +kernel
theorem dX7_round_122 : decode cX7_round 122 = .ok (.isub, 1) := by decide +kernel
theorem dX7_round_123 : decode cX7_round 123 = .ok (.iaload, 1) := by decide +kernel
theorem dX7_round_124 : decode cX7_round 124 = .ok (.iload_n 2, 1) := by decide +kernel
theorem dX7_round_125 : decode cX7_round 125 = .ok (.bipush 7, 2) := by decide +kernel
theorem dX7_round_127 : decode cX7_round 127 = .ok (.invokestatic 74, 3) := by decide +kernel
theorem dX7_round_130 : decode cX7_round 130 = .ok (.iload_n 2, 1) := by decide +kernel
theorem dX7_round_131 : decode cX7_round 131 = .ok (.bipush 18, 2) := by decide +kernel
theorem dX7_round_133 : decode cX7_round 133 = .ok (.invokestatic 74, 3) := by decide +kernel
theorem dX7_round_136 : decode cX7_round 136 = .ok (.ixor, 1) := by decide +kernel
theorem dX7_round_137 : decode cX7_round 137 = .ok (.iload_n 2, 1) := by decide +kernel
theorem dX7_round_138 : decode cX7_round 138 = .ok (.iconst 3, 1) := by decide +kernel
theorem dX7_round_139 : decode cX7_round 139 = .ok (.iushr, 1) := by decide +kernel
theorem dX7_round_140 : decode cX7_round 140 = .ok (.ixor, 1) := by decide +kernel
theorem dX7_round_141 : decode cX7_round 141 = .ok (.iadd, 1) := by decide +kernel
theorem dX7_round_142 : decode cX7_round 142 = .ok (.aload_n 0, 1) := by decide +kernel
theorem dX7_round_143 : decode cX7_round 143 = .ok (.getfield 16, 3) := by decide +kernel
theorem dX7_round_146 : decode cX7_round 146 = .ok (.iload_n 1, 1) := by decide +kernel
theorem dX7_round_147 : decode cX7_round 147 = .ok (.bipush 7, 2) := by decide +kernel
theorem dX7_round_149 : decode cX7_round 149 = .ok (.isub, 1) := by decide +kernel
theorem dX7_round_150 : decode cX7_round 150 = .ok (.iaload, 1) := by decide +kernel
theorem dX7_round_151 : decode cX7_round 151 = .ok (.iadd, 1) := by decide +kernel
theorem dX7_round_152 : decode cX7_round 152 = .ok (.iload_n 3, 1) := by decide +kernel
theorem dX7_round_153 : decode cX7_round 153 = .ok (.bipush 17, 2) := by decide +kernel
theorem dX7_round_155 : decode cX7_round 155 = .ok (.invokestatic 74, 3) := by decide +kernel
theorem dX7_round_158 : decode cX7_round 158 = .ok (.iload_n 3, 1) := by decide +kernel
theorem dX7_round_159 : decode cX7_round 159 = .ok (.bipush 19, 2) := by decide +kernel
theorem dX7_round_161 : decode cX7_round 161 = .ok (.invokestatic 74, 3) := by decide +kernel
theorem dX7_round_164 : decode cX7_round 164 = .ok (.ixor, 1) := by decide +kernel
theorem dX7_round_165 : decode cX7_round 165 = .ok (.iload_n 3, 1) := by decide +kernel
theorem dX7_round_166 : decode cX7_round 166 = .ok (.bipush 10, 2) := by decide +kernel
theorem dX7_round_168 : decode cX7_round 168 = .ok (.iushr, 1) := by decide +kernel
theorem dX7_round_169 : decode cX7_round 169 = .ok (.ixor, 1) := by decide +kernel
theorem dX7_round_170 : decode cX7_round 170 = .ok (.iadd, 1) := by decide +kernel
theorem dX7_round_171 : decode cX7_round 171 = .ok (.iastore, 1) := by decide +kernel
theorem dX7_round_172 : decode cX7_round 172 = .ok (.iinc 1 1, 3) := by decide +kernel
theorem dX7_round_175 : decode cX7_round 175 = .ok (.goto (-90), 3) := by decide +kernel
theorem dX7_round_178 : decode cX7_round 178 = .ok (.aload_n 0, 1) := by decide +kernel
theorem dX7_round_179 : decode cX7_round 179 = .ok (.getfield 13, 3) := by decide +kernel
theorem dX7_round_182 : decode cX7_round 182 = .ok (.iconst 0, 1) := by decide +kernel
theorem dX7_round_183 : decode cX7_round 183 = .ok (.iaload, 1) := by decide +kernel
theorem dX7_round_184 : decode cX7_round 184 = .ok (.istore_n 1, 1) := by decide +kernel
theorem dX7_round_185 : decode cX7_round 185 = .ok (.aload_n 0, 1) := by decide +kernel
theorem dX7_round_186 : decode cX7_round 186 = .ok (.getfield 13, 3) := by decide +kernel
theorem dX7_round_189 : decode cX7_round 189 = .ok (.iconst 1, 1) := by decide +kernel
theorem dX7_round_190 : decode cX7_round 190 = .ok (.iaload, 1) := by decide +kernel
theorem dX7_round_191 : decode cX7_round 191 = .ok (.istore_n 2, 1) := by decide +kernel
theorem dX7_round_192 : decode cX7_round 192 = .ok (.aload_n 0, 1) := by decide +kernel
theorem dX7_round_193 : decode cX7_round 193 = .ok (.getfield 13, 3) := by decide +kernel
theorem dX7_round_196 : decode cX7_round 196 = .ok (.iconst 2, 1) := by decide +kernel
theorem dX7_round_197 : decode cX7_round 197 = .ok (.iaload, 1) := by decide +kernel
theorem dX7_round_198 : decode cX7_round 198 = .ok (.istore_n 3, 1) := by decide +kernel
theorem dX7_round_199 : decode cX7_round 199 = .ok (.aload_n 0, 1) := by decide +kernel
theorem dX7_round_200 : decode cX7_round 200 = .ok (.getfield 13, 3) := by decide +kernel
theorem dX7_round_203 : decode cX7_round 203 = .ok (.iconst 3, 1) := by decide +kernel
theorem dX7_round_204 : decode cX7_round 204 = .ok (.iaload, 1) := by decide +kernel
theorem dX7_round_205 : decode cX7_round 205 = .ok (.istore 4, 2) := by decide +kernel
theorem dX7_round_207 : decode cX7_round 207 = .ok (.aload_n 0, 1) := by decide +kernel
theorem dX7_round_208 : decode cX7_round 208 = .ok (.getfield 13, 3) := by decide +kernel
theorem dX7_round_211 : decode cX7_round 211 = .ok (.iconst 4, 1) := by decide +kernel
theorem dX7_round_212 : decode cX7_round 212 = .ok (.iaload, 1) := by decide +kernel
theorem dX7_round_213 : decode cX7_round 213 = .ok (.istore 5, 2) := by decide +kernel
theorem dX7_round_215 : decode cX7_round 215 = .ok (.aload_n 0, 1) := by decide +kernel
theorem dX7_round_216 : decode cX7_round 216 = .ok (.getfield 13, 3) := by decide +kernel
theorem dX7_round_219 : decode cX7_round 219 = .ok (.iconst 5, 1) := by decide +kernel
theorem dX7_round_220 : decode cX7_round 220 = .ok (.iaload, 1) := by decide +kernel
theorem dX7_round_221 : decode cX7_round 221 = .ok (.istore 6, 2) := by decide +kernel
theorem dX7_round_223 : decode cX7_round 223 = .ok (.aload_n 0, 1) := by decide +kernel
theorem dX7_round_224 : decode cX7_round 224 = .ok (.getfield 13, 3) := by decide +kernel
theorem dX7_round_227 : decode cX7_round 227 = .ok (.bipush 6, 2) := by decide +kernel
theorem dX7_round_229 : decode cX7_round 229 = .ok (.iaload, 1) := by decide +kernel
theorem dX7_round_230 : decode cX7_round 230 = .ok (.istore 7, 2) := by decide +kernel
theorem dX7_round_232 : decode cX7_round 232 = .ok (.aload_n 0, 1) := by decide +kernel
theorem dX7_round_233 : decode cX7_round 233 = .ok (.getfield 13, 3) := by decide +kernel
theorem dX7_round_236 : decode cX7_round 236 = .ok (.bipush 7, 2) := by decide +kernel
theorem dX7_round_238 : decode cX7_round 238 = .ok (.iaload, 1) := by decide +kernel
theorem dX7_round_239 : decode cX7_round 239 = .ok (.istore 8, 2) := by decide +kernel
theorem dX7_round_241 : decode cX7_round 241 = .ok (.iconst 0, 1) := by decide +kernel
theorem dX7_round_242 : decode cX7_round 242 = .ok (.istore 9, 2) := by decide +kernel
theorem dX7_round_244 : decode cX7_round 244 = .ok (.iload 9, 2) := by decide +kernel
theorem dX7_round_246 : decode cX7_round 246 = .ok (.bipush 64, 2) := by decide +kernel
theorem dX7_round_248 : decode cX7_round 248 = .ok (.if_icmp .ge 132, 3) := by decide +kernel
theorem dX7_round_251 : decode cX7_round 251 = .ok (.iload 8, 2) := by decide +kernel
theorem dX7_round_253 : decode cX7_round 253 = .ok (.iload 5, 2) := by decide +kernel
theorem dX7_round_255 : decode cX7_round 255 = .ok (.bipush 6, 2) := by decide +kernel
theorem dX7_round_257 : decode cX7_round 257 = .ok (.invokestatic 74, 3) := by decide +kernel
theorem dX7_round_260 : decode cX7_round 260 = .ok (.iload 5, 2) := by decide +kernel
theorem dX7_round_262 : decode cX7_round 262 = .ok (.bipush 11, 2) := by decide +kernel
theorem dX7_round_264 : decode cX7_round 264 = .ok (.invokestatic 74, 3) := by decide +kernel
theorem dX7_round_267 : decode cX7_round 267 = .ok (.ixor, 1) := by decide +kernel
theorem dX7_round_268 : decode cX7_round 268 = .ok (.iload 5, 2) := by decide +kernel
theorem dX7_round_270 : decode cX7_round 270 = .ok (.bipush 25, 2) := by decide +kernel
theorem dX7_round_272 : decode cX7_round 272 = .ok (.invokestatic 74, 3) := by decide +kernel
theorem dX7_round_275 : decode cX7_round 275 = .ok (.ixor, 1) := by decide +kernel
theorem dX7_round_276 : decode cX7_round 276 = .ok (.iadd, 1) := by decide +kernel
theorem dX7_round_277 : decode cX7_round 277 = .ok (.iload 5, 2) := by decide +kernel
theorem dX7_round_279 : decode cX7_round 279 = .ok (.iload 6, 2) := by decide +kernel
theorem dX7_round_281 : decode cX7_round 281 = .ok (.iand, 1) := by decide +kernel
theorem dX7_round_282 : decode cX7_round 282 = .ok (.iload 5, 2) := by decide +kernel
theorem dX7_round_284 : decode cX7_round 284 = .ok (.iconst (-1), 1) := by decide +kernel
theorem dX7_round_285 : decode cX7_round 285 = .ok (.ixor, 1) := by decide +kernel
theorem dX7_round_286 : decode cX7_round 286 = .ok (.iload 7, 2) := by decide +kernel
theorem dX7_round_288 : decode cX7_round 288 = .ok (.iand, 1) := by decide +kernel
theorem dX7_round_289 : decode cX7_round 289 = .ok (.ixor, 1) := by decide +kernel
theorem dX7_round_290 : decode cX7_round 290 = .ok (.iadd, 1) := by decide +kernel
theorem dX7_round_291 : decode cX7_round 291 = .ok (.aload_n 0, 1) := by decide +kernel
theorem dX7_round_292 : decode cX7_round 292 = .ok (.getfield 19, 3) := by decide +kernel
theorem dX7_round_295 : decode cX7_round 295 = .ok (.iload 9, 2) := by decide +kernel
theorem dX7_round_297 : decode cX7_round 297 = .ok (.iaload, 1) := by decide +kernel
theorem dX7_round_298 : decode cX7_round 298 = .ok (.iadd, 1) := by decide +kernel
theorem dX7_round_299 : decode cX7_round 299 = .ok (.aload_n 0, 1) := by decide +kernel
theorem dX7_round_300 : decode cX7_round 300 = .ok (.getfield 16, 3) := by decide +kernel
theorem dX7_round_303 : decode cX7_round 303 = .ok (.iload 9, 2) := by decide +kernel
theorem dX7_round_305 : decode cX7_round 305 = .ok (.iaload, 1) := by decide +kernel
theorem dX7_round_306 : decode cX7_round 306 = .ok (.iadd, 1) := by decide +kernel
theorem dX7_round_307 : decode cX7_round 307 = .ok (.istore 10, 2) := by decide +kernel
theorem dX7_round_309 : decode cX7_round 309 = .ok (.iload_n 1, 1) := by decide +kernel
theorem dX7_round_310 : decode cX7_round 310 = .ok (.iconst 2, 1) := by decide +kernel
theorem dX7_round_311 : decode cX7_round 311 = .ok (.invokestatic 74, 3) := by decide +kernel
theorem dX7_round_314 : decode cX7_round 314 = .ok (.iload_n 1, 1) := by decide +kernel
theorem dX7_round_315 : decode cX7_round 315 = .ok (.bipush 13, 2) := by decide +kernel
theorem dX7_round_317 : decode cX7_round 317 = .ok (.invokestatic 74, 3) := by decide +kernel
theorem dX7_round_320 : decode cX7_round 320 = .ok (.ixor, 1) := by decide +kernel
theorem dX7_round_321 : decode cX7_round 321 = .ok (.iload_n 1, 1) := by decide +kernel
theorem dX7_round_322 : decode cX7_round 322 = .ok (.bipush 22, 2) := by decide +kernel
theorem dX7_round_324 : decode cX7_round 324 = .ok (.invokestatic 74, 3) := by decide +kernel
theorem dX7_round_327 : decode cX7_round 327 = .ok (.ixor, 1) := by decide +kernel
theorem dX7_round_328 : decode cX7_round 328 = .ok (.iload_n 1, 1) := by decide +kernel
theorem dX7_round_329 : decode cX7_round 329 = .ok (.iload_n 2, 1) := by decide +kernel
theorem dX7_round_330 : decode cX7_round 330 = .ok (.iand, 1) := by decide +kernel
theorem dX7_round_331 : decode cX7_round 331 = .ok (.iload_n 1, 1) := by decide +kernel
theorem dX7_round_332 : decode cX7_round 332 = .ok (.iload_n 3, 1) := by decide +kernel
theorem dX7_round_333 : decode cX7_round 333 = .ok (.iand, 1) := by decide +kernel
theorem dX7_round_334 : decode cX7_round 334 = .ok (.ixor, 1) := by decide +kernel
theorem dX7_round_335 : decode cX7_round 335 = .ok (.iload_n 2, 1) := by decide +kernel
theorem dX7_round_336 : decode cX7_round 336 = .ok (.iload_n 3, 1) := by decide +kernel
theorem dX7_round_337 : decode cX7_round 337 = .ok (.iand, 1) := by decide +kernel
theorem dX7_round_338 : decode cX7_round 338 = .ok (.ixor, 1) := by decide +kernel
theorem dX7_round_339 : decode cX7_round 339 = .ok (.iadd, 1) := by decide +kernel
theorem dX7_round_340 : decode cX7_round 340 = .ok (.istore 11, 2) := by decide +kernel
theorem dX7_round_342 : decode cX7_round 342 = .ok (.iload 7, 2) := by decide +kernel
theorem dX7_round_344 : decode cX7_round 344 = .ok (.istore 8, 2) := by decide +kernel
theorem dX7_round_346 : decode cX7_round 346 = .ok (.iload 6, 2) := by decide +kernel
theorem dX7_round_348 : decode cX7_round 348 = .ok (.istore 7, 2) := by decide +kernel
theorem dX7_round_350 : decode cX7_round 350 = .ok (.iload 5, 2) := by decide +kernel
theorem dX7_round_352 : decode cX7_round 352 = .ok (.istore 6, 2) := by decide +kernel
theorem dX7_round_354 : decode cX7_round 354 = .ok (.iload 4, 2) := by decide +kernel
theorem dX7_round_356 : decode cX7_round 356 = .ok (.iload 10, 2) := by decide +kernel
theorem dX7_round_358 : decode cX7_round 358 = .ok (.iadd, 1) := by decide +kernel
theorem dX7_round_359 : decode cX7_round 359 = .ok (.istore 5, 2) := by decide +kernel
theorem dX7_round_361 : decode cX7_round 361 = .ok (.iload_n 3, 1) := by decide +kernel
theorem dX7_round_362 : decode cX7_round 362 = .ok (.istore 4, 2) := by decide +kernel
theorem dX7_round_364 : decode cX7_round 364 = .ok (.iload_n 2, 1) := by decide +kernel
theorem dX7_round_365 : decode cX7_round 365 = .ok (.istore_n 3, 1) := by decide +kernel
theorem dX7_round_366 : decode cX7_round 366 = .ok (.iload_n 1, 1) := by decide +kernel
theorem dX7_round_367 : decode cX7_round 367 = .ok (.istore_n 2, 1) := by decide +kernel
theorem dX7_round_368 : decode cX7_round 368 = .ok (.iload 10, 2) := by decide +kernel
theorem dX7_round_370 : decode cX7_round 370 = .ok (.iload 11, 2) := by decide +kernel
theorem dX7_round_372 : decode cX7_round 372 = .ok (.iadd, 1) := by decide +kernel
theorem dX7_round_373 : decode cX7_round 373 = .ok (.istore_n 1, 1) := by decide +kernel
theorem dX7_round_374 : decode cX7_round 374 = .ok (.iinc 9 1, 3) := by decide +kernel
theorem dX7_round_377 : decode cX7_round 377 = .ok (.goto (-133), 3) := by decide +kernel
theorem dX7_round_380 : decode cX7_round 380 = .ok (.aload_n 0, 1) := by decide +kernel
theorem dX7_round_381 : decode cX7_round 381 = .ok (.getfield 13, 3) := by decide +kernel
theorem dX7_round_384 : decode cX7_round 384 = .ok (.iconst 0, 1) := by decide +kernel
theorem dX7_round_385 : decode cX7_round 385 = .ok (.dup2, 1) := by decide +kernel
theorem dX7_round_386 : decode cX7_round 386 = .ok (.iaload, 1) := by decide +kernel
theorem dX7_round_387 : decode cX7_round 387 = .ok (.iload_n 1, 1) := by decide +kernel
theorem dX7_round_388 : decode cX7_round 388 = .ok (.iadd, 1) := by decide +kernel
theorem dX7_round_389 : decode cX7_round 389 = .ok (.iastore, 1) := by decide +kernel
theorem dX7_round_390 : decode cX7_round 390 = .ok (.aload_n 0, 1) := by decide +kernel
theorem dX7_round_391 : decode cX7_round 391 = .ok (.getfield 13, 3) := by decide +kernel
theorem dX7_round_394 : decode cX7_round 394 = .ok (.iconst 1, 1) := by decide +kernel
theorem dX7_round_395 : decode cX7_round 395 = .ok (.dup2, 1) := by decide +kernel
theorem dX7_round_396 : decode cX7_round 396 = .ok (.iaload, 1) := by decide +kernel
theorem dX7_round_397 : decode cX7_round 397 = .ok (.iload_n 2, 1) := by decide +kernel
theorem dX7_round_398 : decode cX7_round 398 = .ok (.iadd, 1) := by decide +kernel
theorem dX7_round_399 : decode cX7_round 399 = .ok (.iastore, 1) := by decide +kernel
theorem dX7_round_400 : decode cX7_round 400 = .ok (.aload_n 0, 1) := by decide +kernel
theorem dX7_round_401 : decode cX7_round 401 = .ok (.getfield 13, 3) := by decide +kernel
theorem dX7_round_404 : decode cX7_round 404 = .ok (.iconst 2, 1) := by decide +kernel
theorem dX7_round_405 : decode cX7_round 405 = .ok (.dup2, 1) := by decide +kernel
theorem dX7_round_406 : decode cX7_round 406 = .ok (.iaload, 1) := by decide +kernel
theorem dX7_round_407 : decode cX7_round 407 = .ok (.iload_n 3, 1) := by decide +kernel
theorem dX7_round_408 : decode cX7_round 408 = .ok (.iadd, 1) := by decide +kernel
theorem dX7_round_409 : decode cX7_round 409 = .ok (.iastore, 1) := by decide +kernel
theorem dX7_round_410 : decode cX7_round 410 = .ok (.aload_n 0, 1) := by decide +kernel
theorem dX7_round_411 : decode cX7_round 411 = .ok (.getfield 13, 3) := by decide +kernel
theorem dX7_round_414 : decode cX7_round 414 = .ok (.iconst 3, 1) := by decide +kernel
theorem dX7_round_415 : decode cX7_round 415 = .ok (.dup2, 1) := by decide +kernel
theorem dX7_round_416 : decode cX7_round 416 = .ok (.iaload, 1) := by decide +kernel
theorem dX7_round_417 : decode cX7_round 417 = .ok (.iload 4, 2) := by decide +kernel
theorem dX7_round_419 : decode cX7_round 419 = .ok (.iadd, 1) := by decide +kernel
theorem dX7_round_420 : decode cX7_round 420 = .ok (.iastore, 1) := by decide +kernel
theorem dX7_round_421 : decode cX7_round 421 = .ok (.aload_n 0, 1) := by decide +kernel
theorem dX7_round_422 : decode cX7_round 422 = .ok (.getfield 13, 3) := by decide +kernel
theorem dX7_round_425 : decode cX7_round 425 = .ok (.iconst 4, 1) := by decide +kernel
theorem dX7_round_426 : decode cX7_round 426 = .ok (.dup2, 1) := by decide +kernel
theorem dX7_round_427 : decode cX7_round 427 = .ok (.iaload, 1) := by decide +kernel
theorem dX7_round_428 : decode cX7_round 428 = .ok (.iload 5, 2) := by decide +kernel
theorem dX7_round_430 : decode cX7_round 430 = .ok (.iadd, 1) := by decide +kernel
theorem dX7_round_431 : decode cX7_round 431 = .ok (.iastore, 1) := by decide +kernel
theorem dX7_round_432 : decode cX7_round 432 = .ok (.aload_n 0, 1) := by decide +kernel
theorem dX7_round_433 : decode cX7_round 433 = .ok (.getfield 13, 3) := by decide +kernel
theorem dX7_round_436 : decode cX7_round 436 = .ok (.iconst 5, 1) := by decide +kernel
theorem dX7_round_437 : decode cX7_round 437 = .ok (.dup2, 1) := by decide +kernel
theorem dX7_round_438 : decode cX7_round 438 = .ok (.iaload, 1) := by decide +kernel
theorem dX7_round_439 : decode cX7_round 439 = .ok (.iload 6, 2) := by decide +kernel
theorem dX7_round_441 : decode cX7_round 441 = .ok (.iadd, 1) := by decide +kernel
theorem dX7_round_442 : decode cX7_round 442 = .ok (.iastore, 1) := by decide +kernel
theorem dX7_round_443 : decode cX7_round 443 = .ok (.aload_n 0, 1) := by decide +kernel
theorem dX7_round_444 : decode cX7_round 444 = .ok (.getfield 13, 3) := by decide +kernel
theorem dX7_round_447 : decode cX7_round 447 = .ok (.bipush 6, 2) := by decide +kernel
theorem dX7_round_449 : decode cX7_round 449 = .ok (.dup2, 1) := by decide +kernel
theorem dX7_round_450 : decode cX7_round 450 = .ok (.iaload, 1) := by decide +kernel
theorem dX7_round_451 : decode cX7_round 451 = .ok (.iload 7, 2) := by decide +kernel
theorem dX7_round_453 : decode cX7_round 453 = .ok (.iadd, 1) := by decide +kernel
theorem dX7_round_454 : decode cX7_round 454 = .ok (.iastore, 1) := by decide +kernel
theorem dX7_round_455 : decode cX7_round 455 = .ok (.aload_n 0, 1) := by decide +kernel
theorem dX7_round_456 : decode cX7_round 456 = .ok (.getfield 13, 3) := by decide +kernel
theorem dX7_round_459 : decode cX7_round 459 = .ok (.bipush 7, 2) := by decide +kernel
theorem dX7_round_461 : decode cX7_round 461 = .ok (.dup2, 1) := by decide +kernel
theorem dX7_round_462 : decode cX7_round 462 = .ok (.iaload, 1) := by decide +kernel
theorem dX7_round_463 : decode cX7_round 463 = .ok (.iload 8, 2) := by decide +kernel
theorem dX7_round_465 : decode cX7_round 465 = .ok (.iadd, 1) := by decide +kernel
theorem dX7_round_466 : decode cX7_round 466 = .ok (.iastore, 1) := by decide +kernel
theorem dX7_round_467 : decode cX7_round 467 = .ok (.return_, 1) := by decide +kernel
theorem hyX7_round : yX7_round.cls ≠ "java/lang/invoke/MethodHandle" ∧ yX7_round.cls ≠ "java/lang/invoke/VarHandle" ∧ (parseMethodDescriptor yX7_round.desc).map (fun d => d.parameters.length) = some 0 := by decide +kernel
abbrev J_X7_round_2 (E : gx_E) (v0 : Nat) (v1 : Int32) (u : gx_S) : Prop := gx_Wc E 12 2 [(0, .ref (ex_ad E v0)), (1, .int v1)] [] u
abbrev J_X7_round_85 (E : gx_E) (v0 : Nat) (v1 : Int32) (u : gx_S) : Prop := gx_Wc E 12 85 [(0, .ref (ex_ad E v0)), (1, .int v1)] [] u
abbrev J_X7_round_244 (E : gx_E) (v0 : Nat) (v1 : Int32) (v2 : Int32) (v3 : Int32) (v4 : Int32) (v5 : Int32) (v6 : Int32) (v7 : Int32) (v8 : Int32) (v9 : Int32) (u : gx_S) : Prop := gx_Wc E 12 244 [(0, .ref (ex_ad E v0)), (1, .int v1), (2, .int v2), (3, .int v3), (4, .int v4), (5, .int v5), (6, .int v6), (7, .int v7), (8, .int v8), (9, .int v9)] [] u
set_option maxHeartbeats 4000000 in
set_option maxRecDepth 100000 in
theorem w_X7_round_0 {E : gx_E} (X : gx_X E cX7_round 12 RX7 none) (hd : 1 ≤ ex_d E) {post : gx_S → Prop} (hQ : ex_Q E = va_Qv post (gx_B (ex_Z E)) (gx_A (ex_Z E))) {u : gx_S} {v0 : Nat} (h : J_X7_round_2 E v0 (0 : Int32) u) : gx_Wc E 12 0 [(0, .ref (ex_ad E v0))] [] u := by
  refine gx_iconst X (v := 0) dX7_round_0 (by decide) ?_
  refine gx_istore_n X (lv' := [(1, .int (0 : Int32)), (0, .ref (ex_ad E v0))]) dX7_round_1 rfl (by decide) rfl ?_
  exact gx_sub [1, 0] rfl h
set_option maxHeartbeats 4000000 in
set_option maxRecDepth 100000 in
theorem w_X7_round_2 {E : gx_E} (X : gx_X E cX7_round 12 RX7 none) (hd : 1 ≤ ex_d E) {post : gx_S → Prop} (hQ : ex_Q E = va_Qv post (gx_B (ex_Z E)) (gx_A (ex_Z E))) {u : gx_S} {v0 : Nat} {v1 : Int32} (h : (((16 : Int32) ≤ v1 → J_X7_round_85 E v0 (16 : Int32) u) ∧ (¬ (16 : Int32) ≤ v1 → (gx_isO v0 6 ∧ (gx_isR (gx_r u v0 4) .byte ∧ vp_in ((4 : Int32) * v1) (gx_len (gx_r u v0 4)) ∧ (vp_in (((4 : Int32) * v1) + (1 : Int32)) (gx_len (gx_r u v0 4)) ∧ (vp_in (((4 : Int32) * v1) + (2 : Int32)) (gx_len (gx_r u v0 4)) ∧ (vp_in (((4 : Int32) * v1) + (3 : Int32)) (gx_len (gx_r u v0 4)) ∧ (gx_isA (gx_r u v0 2) .int ∧ vp_in v1 (gx_len (gx_r u v0 2)) ∧ ∀ u9 : gx_S, u9 = gx_pa u (gx_r u v0 2) (upd (gx_a u (gx_r u v0 2)) v1.toNatClampNeg (((((gx_a u (gx_r u v0 4) ((4 : Int32) * v1).toNatClampNeg) <<< ((24 : Int32) &&& 31)) ||| (((gx_a u (gx_r u v0 4) (((4 : Int32) * v1) + (1 : Int32)).toNatClampNeg) &&& (255 : Int32)) <<< ((16 : Int32) &&& 31))) ||| (((gx_a u (gx_r u v0 4) (((4 : Int32) * v1) + (2 : Int32)).toNatClampNeg) &&& (255 : Int32)) <<< ((8 : Int32) &&& 31))) ||| ((gx_a u (gx_r u v0 4) (((4 : Int32) * v1) + (3 : Int32)).toNatClampNeg) &&& (255 : Int32)))) → (∀ x10 : Int32, x10 = v1 + 1 → J_X7_round_2 E v0 x10 u9)))))))))) : gx_Wc E 12 2 [(0, .ref (ex_ad E v0)), (1, .int v1)] [] u := by
  refine gx_iload_n X (j := 1) dX7_round_2 rfl rfl ?_
  refine gx_bipush X (v := 16) dX7_round_3 (by decide) ?_
  refine gx_icmp_ge X (tgt := 82) dX7_round_5 (by decide) (fun c11 => ?_) (fun c11 => ?_)
  · replace h := h.1 c11
    refine gx_bipush X (v := 16) dX7_round_82 (by decide) ?_
    refine gx_istore_n X (lv' := [(1, .int (16 : Int32)), (0, .ref (ex_ad E v0))]) dX7_round_84 rfl (by decide) rfl ?_
    exact gx_sub [1, 0] rfl h
  · replace h := h.2 c11
    refine gx_aload_n X (j := 0) dX7_round_8 rfl rfl ?_
    obtain ⟨k1, h⟩ := h
    refine gx_get X k1 rfl iwX7 2 (by decide) mw_501 (v := .ref (ex_ad E (gx_r u v0 2))) rfl dX7_round_9 ?_
    refine gx_iload_n X (j := 1) dX7_round_12 rfl rfl ?_
    refine gx_aload_n X (j := 0) dX7_round_13 rfl rfl ?_
    refine gx_get X k1 rfl iwX7 4 (by decide) mw_503 (v := .ref (ex_ad E (gx_r u v0 4))) rfl dX7_round_14 ?_
    refine gx_iconst X (v := 4) dX7_round_17 (by decide) ?_
    refine gx_iload_n X (j := 1) dX7_round_18 rfl rfl ?_
    refine gx_imul X dX7_round_19 ?_
    obtain ⟨k2, h⟩ := h
    obtain ⟨k3, h⟩ := h
    refine gx_bald X k2 k3 dX7_round_20 ?_
    refine gx_bipush X (v := 24) dX7_round_21 (by decide) ?_
    refine gx_ishl X dX7_round_23 ?_
    refine gx_aload_n X (j := 0) dX7_round_24 rfl rfl ?_
    refine gx_get X k1 rfl iwX7 4 (by decide) mw_503 (v := .ref (ex_ad E (gx_r u v0 4))) rfl dX7_round_25 ?_
    refine gx_iconst X (v := 4) dX7_round_28 (by decide) ?_
    refine gx_iload_n X (j := 1) dX7_round_29 rfl rfl ?_
    refine gx_imul X dX7_round_30 ?_
    refine gx_iconst X (v := 1) dX7_round_31 (by decide) ?_
    refine gx_iadd X dX7_round_32 ?_
    obtain ⟨k4, h⟩ := h
    refine gx_bald X k2 k4 dX7_round_33 ?_
    refine gx_sipush X (v := 255) dX7_round_34 (by decide) ?_
    refine gx_iand X dX7_round_37 ?_
    refine gx_bipush X (v := 16) dX7_round_38 (by decide) ?_
    refine gx_ishl X dX7_round_40 ?_
    refine gx_ior X dX7_round_41 ?_
    refine gx_aload_n X (j := 0) dX7_round_42 rfl rfl ?_
    refine gx_get X k1 rfl iwX7 4 (by decide) mw_503 (v := .ref (ex_ad E (gx_r u v0 4))) rfl dX7_round_43 ?_
    refine gx_iconst X (v := 4) dX7_round_46 (by decide) ?_
    refine gx_iload_n X (j := 1) dX7_round_47 rfl rfl ?_
    refine gx_imul X dX7_round_48 ?_
    refine gx_iconst X (v := 2) dX7_round_49 (by decide) ?_
    refine gx_iadd X dX7_round_50 ?_
    obtain ⟨k5, h⟩ := h
    refine gx_bald X k2 k5 dX7_round_51 ?_
    refine gx_sipush X (v := 255) dX7_round_52 (by decide) ?_
    refine gx_iand X dX7_round_55 ?_
    refine gx_bipush X (v := 8) dX7_round_56 (by decide) ?_
    refine gx_ishl X dX7_round_58 ?_
    refine gx_ior X dX7_round_59 ?_
    refine gx_aload_n X (j := 0) dX7_round_60 rfl rfl ?_
    refine gx_get X k1 rfl iwX7 4 (by decide) mw_503 (v := .ref (ex_ad E (gx_r u v0 4))) rfl dX7_round_61 ?_
    refine gx_iconst X (v := 4) dX7_round_64 (by decide) ?_
    refine gx_iload_n X (j := 1) dX7_round_65 rfl rfl ?_
    refine gx_imul X dX7_round_66 ?_
    refine gx_iconst X (v := 3) dX7_round_67 (by decide) ?_
    refine gx_iadd X dX7_round_68 ?_
    obtain ⟨k6, h⟩ := h
    refine gx_bald X k2 k6 dX7_round_69 ?_
    refine gx_sipush X (v := 255) dX7_round_70 (by decide) ?_
    refine gx_iand X dX7_round_73 ?_
    refine gx_ior X dX7_round_74 ?_
    obtain ⟨k7, h⟩ := h
    obtain ⟨k8, h⟩ := h
    refine gx_iast X k7 k8 dX7_round_75 ?_
    refine gx_nams (fun u9 eu9 => ?_)
    replace h := h u9 eu9
    obtain ⟨x10, ex10⟩ : ∃ y : Int32, y = v1 + 1 := ⟨_, rfl⟩
    replace h := h x10 ex10
    refine gx_iinc X (v := x10) (lv' := [(1, .int x10), (0, .ref (ex_ad E v0))]) dX7_round_76 (j := 1) rfl (by rw [ex10]; rfl) (by decide) rfl ?_
    refine gx_goto X (tgt := 2) dX7_round_79 (by decide) ?_
    exact gx_sub [1, 0] rfl h
set_option maxHeartbeats 4000000 in
set_option maxRecDepth 100000 in
theorem w_X7_round_85 {E : gx_E} (X : gx_X E cX7_round 12 RX7 none) (hd : 1 ≤ ex_d E) {post : gx_S → Prop} (hQ : ex_Q E = va_Qv post (gx_B (ex_Z E)) (gx_A (ex_Z E))) {u : gx_S} {v0 : Nat} {v1 : Int32} (h : (((64 : Int32) ≤ v1 → (gx_isO v0 6 ∧ (gx_isR (gx_r u v0 1) .int ∧ vp_in (0 : Int32) (gx_len (gx_r u v0 1)) ∧ (∀ x4 : Int32, x4 = (gx_a u (gx_r u v0 1) (0 : Int32).toNatClampNeg) → (vp_in (1 : Int32) (gx_len (gx_r u v0 1)) ∧ (∀ x6 : Int32, x6 = (gx_a u (gx_r u v0 1) (1 : Int32).toNatClampNeg) → (vp_in (2 : Int32) (gx_len (gx_r u v0 1)) ∧ (∀ x8 : Int32, x8 = (gx_a u (gx_r u v0 1) (2 : Int32).toNatClampNeg) → (vp_in (3 : Int32) (gx_len (gx_r u v0 1)) ∧ (∀ x10 : Int32, x10 = (gx_a u (gx_r u v0 1) (3 : Int32).toNatClampNeg) → (vp_in (4 : Int32) (gx_len (gx_r u v0 1)) ∧ (∀ x12 : Int32, x12 = (gx_a u (gx_r u v0 1) (4 : Int32).toNatClampNeg) → (vp_in (5 : Int32) (gx_len (gx_r u v0 1)) ∧ (∀ x14 : Int32, x14 = (gx_a u (gx_r u v0 1) (5 : Int32).toNatClampNeg) → (vp_in (6 : Int32) (gx_len (gx_r u v0 1)) ∧ (∀ x16 : Int32, x16 = (gx_a u (gx_r u v0 1) (6 : Int32).toNatClampNeg) → (vp_in (7 : Int32) (gx_len (gx_r u v0 1)) ∧ (∀ x18 : Int32, x18 = (gx_a u (gx_r u v0 1) (7 : Int32).toNatClampNeg) → J_X7_round_244 E v0 x4 x6 x8 x10 x12 x14 x16 x18 (0 : Int32) u)))))))))))))))))) ∧ (¬ (64 : Int32) ≤ v1 → (gx_isO v0 6 ∧ (gx_isR (gx_r u v0 2) .int ∧ vp_in (v1 - (15 : Int32)) (gx_len (gx_r u v0 2)) ∧ (∀ x22 : Int32, x22 = (gx_a u (gx_r u v0 2) (v1 - (15 : Int32)).toNatClampNeg) → (vp_in (v1 - (2 : Int32)) (gx_len (gx_r u v0 2)) ∧ (∀ x24 : Int32, x24 = (gx_a u (gx_r u v0 2) (v1 - (2 : Int32)).toNatClampNeg) → (vp_in (v1 - (16 : Int32)) (gx_len (gx_r u v0 2)) ∧ (S_J6_rotateRight_7cf53 u x22 (7 : Int32) (fun (r27 : Int32) (u26 : gx_S) => (S_J6_rotateRight_7cf53 u26 x22 (18 : Int32) (fun (r29 : Int32) (u28 : gx_S) => (gx_isR (gx_r u28 v0 2) .int ∧ vp_in (v1 - (7 : Int32)) (gx_len (gx_r u28 v0 2)) ∧ (S_J6_rotateRight_7cf53 u28 x24 (17 : Int32) (fun (r33 : Int32) (u32 : gx_S) => (S_J6_rotateRight_7cf53 u32 x24 (19 : Int32) (fun (r35 : Int32) (u34 : gx_S) => (gx_isA (gx_r u v0 2) .int ∧ vp_in v1 (gx_len (gx_r u v0 2)) ∧ ∀ u38 : gx_S, u38 = gx_pa u34 (gx_r u v0 2) (upd (gx_a u34 (gx_r u v0 2)) v1.toNatClampNeg ((((gx_a u (gx_r u v0 2) (v1 - (16 : Int32)).toNatClampNeg) + ((r27 ^^^ r29) ^^^ ((x22.toUInt32 >>> ((3 : Int32).toUInt32 &&& Int32.toUInt32 31)).toInt32))) + (gx_a u28 (gx_r u28 v0 2) (v1 - (7 : Int32)).toNatClampNeg)) + ((r33 ^^^ r35) ^^^ ((x24.toUInt32 >>> ((10 : Int32).toUInt32 &&& Int32.toUInt32 31)).toInt32)))) → (∀ x39 : Int32, x39 = v1 + 1 → J_X7_round_85 E v0 x39 u38)))))))))))))))))))) : gx_Wc E 12 85 [(0, .ref (ex_ad E v0)), (1, .int v1)] [] u := by
  refine gx_iload_n X (j := 1) dX7_round_85 rfl rfl ?_
  refine gx_bipush X (v := 64) dX7_round_86 (by decide) ?_
  refine gx_icmp_ge X (tgt := 178) dX7_round_88 (by decide) (fun c40 => ?_) (fun c40 => ?_)
  · replace h := h.1 c40
    refine gx_aload_n X (j := 0) dX7_round_178 rfl rfl ?_
    obtain ⟨k1, h⟩ := h
    refine gx_get X k1 rfl iwX7 1 (by decide) mw_500 (v := .ref (ex_ad E (gx_r u v0 1))) rfl dX7_round_179 ?_
    refine gx_iconst X (v := 0) dX7_round_182 (by decide) ?_
    obtain ⟨k2, h⟩ := h
    obtain ⟨k3, h⟩ := h
    refine gx_iald X k2 k3 dX7_round_183 ?_
    refine gx_nami (fun x4 ex4 => ?_)
    replace h := h x4 ex4
    refine gx_istore_n X (lv' := [(1, .int x4), (0, .ref (ex_ad E v0))]) dX7_round_184 rfl (by decide) rfl ?_
    refine gx_aload_n X (j := 1) dX7_round_185 rfl rfl ?_
    refine gx_get X k1 rfl iwX7 1 (by decide) mw_500 (v := .ref (ex_ad E (gx_r u v0 1))) rfl dX7_round_186 ?_
    refine gx_iconst X (v := 1) dX7_round_189 (by decide) ?_
    obtain ⟨k5, h⟩ := h
    refine gx_iald X k2 k5 dX7_round_190 ?_
    refine gx_nami (fun x6 ex6 => ?_)
    replace h := h x6 ex6
    refine gx_istore_n X (lv' := [(2, .int x6), (1, .int x4), (0, .ref (ex_ad E v0))]) dX7_round_191 rfl (by decide) rfl ?_
    refine gx_aload_n X (j := 2) dX7_round_192 rfl rfl ?_
    refine gx_get X k1 rfl iwX7 1 (by decide) mw_500 (v := .ref (ex_ad E (gx_r u v0 1))) rfl dX7_round_193 ?_
    refine gx_iconst X (v := 2) dX7_round_196 (by decide) ?_
    obtain ⟨k7, h⟩ := h
    refine gx_iald X k2 k7 dX7_round_197 ?_
    refine gx_nami (fun x8 ex8 => ?_)
    replace h := h x8 ex8
    refine gx_istore_n X (lv' := [(3, .int x8), (2, .int x6), (1, .int x4), (0, .ref (ex_ad E v0))]) dX7_round_198 rfl (by decide) rfl ?_
    refine gx_aload_n X (j := 3) dX7_round_199 rfl rfl ?_
    refine gx_get X k1 rfl iwX7 1 (by decide) mw_500 (v := .ref (ex_ad E (gx_r u v0 1))) rfl dX7_round_200 ?_
    refine gx_iconst X (v := 3) dX7_round_203 (by decide) ?_
    obtain ⟨k9, h⟩ := h
    refine gx_iald X k2 k9 dX7_round_204 ?_
    refine gx_nami (fun x10 ex10 => ?_)
    replace h := h x10 ex10
    refine gx_istore X (lv' := [(4, .int x10), (3, .int x8), (2, .int x6), (1, .int x4), (0, .ref (ex_ad E v0))]) dX7_round_205 (by decide) rfl ?_
    refine gx_aload_n X (j := 4) dX7_round_207 rfl rfl ?_
    refine gx_get X k1 rfl iwX7 1 (by decide) mw_500 (v := .ref (ex_ad E (gx_r u v0 1))) rfl dX7_round_208 ?_
    refine gx_iconst X (v := 4) dX7_round_211 (by decide) ?_
    obtain ⟨k11, h⟩ := h
    refine gx_iald X k2 k11 dX7_round_212 ?_
    refine gx_nami (fun x12 ex12 => ?_)
    replace h := h x12 ex12
    refine gx_istore X (lv' := [(5, .int x12), (4, .int x10), (3, .int x8), (2, .int x6), (1, .int x4), (0, .ref (ex_ad E v0))]) dX7_round_213 (by decide) rfl ?_
    refine gx_aload_n X (j := 5) dX7_round_215 rfl rfl ?_
    refine gx_get X k1 rfl iwX7 1 (by decide) mw_500 (v := .ref (ex_ad E (gx_r u v0 1))) rfl dX7_round_216 ?_
    refine gx_iconst X (v := 5) dX7_round_219 (by decide) ?_
    obtain ⟨k13, h⟩ := h
    refine gx_iald X k2 k13 dX7_round_220 ?_
    refine gx_nami (fun x14 ex14 => ?_)
    replace h := h x14 ex14
    refine gx_istore X (lv' := [(6, .int x14), (5, .int x12), (4, .int x10), (3, .int x8), (2, .int x6), (1, .int x4), (0, .ref (ex_ad E v0))]) dX7_round_221 (by decide) rfl ?_
    refine gx_aload_n X (j := 6) dX7_round_223 rfl rfl ?_
    refine gx_get X k1 rfl iwX7 1 (by decide) mw_500 (v := .ref (ex_ad E (gx_r u v0 1))) rfl dX7_round_224 ?_
    refine gx_bipush X (v := 6) dX7_round_227 (by decide) ?_
    obtain ⟨k15, h⟩ := h
    refine gx_iald X k2 k15 dX7_round_229 ?_
    refine gx_nami (fun x16 ex16 => ?_)
    replace h := h x16 ex16
    refine gx_istore X (lv' := [(7, .int x16), (6, .int x14), (5, .int x12), (4, .int x10), (3, .int x8), (2, .int x6), (1, .int x4), (0, .ref (ex_ad E v0))]) dX7_round_230 (by decide) rfl ?_
    refine gx_aload_n X (j := 7) dX7_round_232 rfl rfl ?_
    refine gx_get X k1 rfl iwX7 1 (by decide) mw_500 (v := .ref (ex_ad E (gx_r u v0 1))) rfl dX7_round_233 ?_
    refine gx_bipush X (v := 7) dX7_round_236 (by decide) ?_
    obtain ⟨k17, h⟩ := h
    refine gx_iald X k2 k17 dX7_round_238 ?_
    refine gx_nami (fun x18 ex18 => ?_)
    replace h := h x18 ex18
    refine gx_istore X (lv' := [(8, .int x18), (7, .int x16), (6, .int x14), (5, .int x12), (4, .int x10), (3, .int x8), (2, .int x6), (1, .int x4), (0, .ref (ex_ad E v0))]) dX7_round_239 (by decide) rfl ?_
    refine gx_iconst X (v := 0) dX7_round_241 (by decide) ?_
    refine gx_istore X (lv' := [(9, .int (0 : Int32)), (8, .int x18), (7, .int x16), (6, .int x14), (5, .int x12), (4, .int x10), (3, .int x8), (2, .int x6), (1, .int x4), (0, .ref (ex_ad E v0))]) dX7_round_242 (by decide) rfl ?_
    exact gx_sub [9, 8, 7, 6, 5, 4, 3, 2, 1, 0] rfl h
  · replace h := h.2 c40
    refine gx_aload_n X (j := 0) dX7_round_91 rfl rfl ?_
    obtain ⟨k19, h⟩ := h
    refine gx_get X k19 rfl iwX7 2 (by decide) mw_501 (v := .ref (ex_ad E (gx_r u v0 2))) rfl dX7_round_92 ?_
    refine gx_iload_n X (j := 1) dX7_round_95 rfl rfl ?_
    refine gx_bipush X (v := 15) dX7_round_96 (by decide) ?_
    refine gx_isub X dX7_round_98 ?_
    obtain ⟨k20, h⟩ := h
    obtain ⟨k21, h⟩ := h
    refine gx_iald X k20 k21 dX7_round_99 ?_
    refine gx_nami (fun x22 ex22 => ?_)
    replace h := h x22 ex22
    refine gx_istore_n X (lv' := [(2, .int x22), (0, .ref (ex_ad E v0)), (1, .int v1)]) dX7_round_100 rfl (by decide) rfl ?_
    refine gx_aload_n X (j := 1) dX7_round_101 rfl rfl ?_
    refine gx_get X k19 rfl iwX7 2 (by decide) mw_501 (v := .ref (ex_ad E (gx_r u v0 2))) rfl dX7_round_102 ?_
    refine gx_iload_n X (j := 2) dX7_round_105 rfl rfl ?_
    refine gx_iconst X (v := 2) dX7_round_106 (by decide) ?_
    refine gx_isub X dX7_round_107 ?_
    obtain ⟨k23, h⟩ := h
    refine gx_iald X k20 k23 dX7_round_108 ?_
    refine gx_nami (fun x24 ex24 => ?_)
    replace h := h x24 ex24
    refine gx_istore_n X (lv' := [(3, .int x24), (2, .int x22), (0, .ref (ex_ad E v0)), (1, .int v1)]) dX7_round_109 rfl (by decide) rfl ?_
    refine gx_aload_n X (j := 2) dX7_round_110 rfl rfl ?_
    refine gx_get X k19 rfl iwX7 2 (by decide) mw_501 (v := .ref (ex_ad E (gx_r u v0 2))) rfl dX7_round_111 ?_
    refine gx_iload_n X (j := 3) dX7_round_114 rfl rfl ?_
    refine gx_aload_n X (j := 2) dX7_round_115 rfl rfl ?_
    refine gx_get X k19 rfl iwX7 2 (by decide) mw_501 (v := .ref (ex_ad E (gx_r u v0 2))) rfl dX7_round_116 ?_
    refine gx_iload_n X (j := 3) dX7_round_119 rfl rfl ?_
    refine gx_bipush X (v := 16) dX7_round_120 (by decide) ?_
    refine gx_isub X dX7_round_122 ?_
    obtain ⟨k25, h⟩ := h
    refine gx_iald X k20 k25 dX7_round_123 ?_
    refine gx_iload_n X (j := 1) dX7_round_124 rfl rfl ?_
    refine gx_bipush X (v := 7) dX7_round_125 (by decide) ?_
    refine gx_ki (gx_rS X (c_J6_rotateRight_7cf53 h) (Nat.le_trans (by decide) hd) (Nat.le_trans (by decide) (Nat.mul_le_mul_left 40 hd)) mw_739 mw_740 mw_14 mw_741 hyJ6_rotateRight_7cf53 (As := [.int x22, .int (7 : Int32)]) (rest := [.int (gx_a u (gx_r u v0 2) (v1 - (16 : Int32)).toNatClampNeg), .int v1, .ref (ex_ad E (gx_r u v0 2))]) rfl rfl (Nat.le_of_ble_eq_true rfl) dX7_round_127) (fun r27 u26 h => ?_)
    refine gx_iload_n X (j := 1) dX7_round_130 rfl rfl ?_
    refine gx_bipush X (v := 18) dX7_round_131 (by decide) ?_
    refine gx_ki (gx_rS X (c_J6_rotateRight_7cf53 h) (Nat.le_trans (by decide) hd) (Nat.le_trans (by decide) (Nat.mul_le_mul_left 40 hd)) mw_739 mw_740 mw_14 mw_741 hyJ6_rotateRight_7cf53 (As := [.int x22, .int (18 : Int32)]) (rest := [.int r27, .int (gx_a u (gx_r u v0 2) (v1 - (16 : Int32)).toNatClampNeg), .int v1, .ref (ex_ad E (gx_r u v0 2))]) rfl rfl (Nat.le_of_ble_eq_true rfl) dX7_round_133) (fun r29 u28 h => ?_)
    refine gx_ixor X dX7_round_136 ?_
    refine gx_iload_n X (j := 1) dX7_round_137 rfl rfl ?_
    refine gx_iconst X (v := 3) dX7_round_138 (by decide) ?_
    refine gx_iushr X (v := (x22.toUInt32 >>> ((3 : Int32).toUInt32 &&& Int32.toUInt32 31)).toInt32) dX7_round_139 rfl ?_
    refine gx_ixor X dX7_round_140 ?_
    refine gx_iadd X dX7_round_141 ?_
    refine gx_aload_n X (j := 2) dX7_round_142 rfl rfl ?_
    refine gx_get X k19 rfl iwX7 2 (by decide) mw_501 (v := .ref (ex_ad E (gx_r u28 v0 2))) rfl dX7_round_143 ?_
    refine gx_iload_n X (j := 3) dX7_round_146 rfl rfl ?_
    refine gx_bipush X (v := 7) dX7_round_147 (by decide) ?_
    refine gx_isub X dX7_round_149 ?_
    obtain ⟨k30, h⟩ := h
    obtain ⟨k31, h⟩ := h
    refine gx_iald X k30 k31 dX7_round_150 ?_
    refine gx_iadd X dX7_round_151 ?_
    refine gx_iload_n X (j := 0) dX7_round_152 rfl rfl ?_
    refine gx_bipush X (v := 17) dX7_round_153 (by decide) ?_
    refine gx_ki (gx_rS X (c_J6_rotateRight_7cf53 h) (Nat.le_trans (by decide) hd) (Nat.le_trans (by decide) (Nat.mul_le_mul_left 40 hd)) mw_739 mw_740 mw_14 mw_741 hyJ6_rotateRight_7cf53 (As := [.int x24, .int (17 : Int32)]) (rest := [.int (((gx_a u (gx_r u v0 2) (v1 - (16 : Int32)).toNatClampNeg) + ((r27 ^^^ r29) ^^^ ((x22.toUInt32 >>> ((3 : Int32).toUInt32 &&& Int32.toUInt32 31)).toInt32))) + (gx_a u28 (gx_r u28 v0 2) (v1 - (7 : Int32)).toNatClampNeg)), .int v1, .ref (ex_ad E (gx_r u v0 2))]) rfl rfl (Nat.le_of_ble_eq_true rfl) dX7_round_155) (fun r33 u32 h => ?_)
    refine gx_iload_n X (j := 0) dX7_round_158 rfl rfl ?_
    refine gx_bipush X (v := 19) dX7_round_159 (by decide) ?_
    refine gx_ki (gx_rS X (c_J6_rotateRight_7cf53 h) (Nat.le_trans (by decide) hd) (Nat.le_trans (by decide) (Nat.mul_le_mul_left 40 hd)) mw_739 mw_740 mw_14 mw_741 hyJ6_rotateRight_7cf53 (As := [.int x24, .int (19 : Int32)]) (rest := [.int r33, .int (((gx_a u (gx_r u v0 2) (v1 - (16 : Int32)).toNatClampNeg) + ((r27 ^^^ r29) ^^^ ((x22.toUInt32 >>> ((3 : Int32).toUInt32 &&& Int32.toUInt32 31)).toInt32))) + (gx_a u28 (gx_r u28 v0 2) (v1 - (7 : Int32)).toNatClampNeg)), .int v1, .ref (ex_ad E (gx_r u v0 2))]) rfl rfl (Nat.le_of_ble_eq_true rfl) dX7_round_161) (fun r35 u34 h => ?_)
    refine gx_ixor X dX7_round_164 ?_
    refine gx_iload_n X (j := 0) dX7_round_165 rfl rfl ?_
    refine gx_bipush X (v := 10) dX7_round_166 (by decide) ?_
    refine gx_iushr X (v := (x24.toUInt32 >>> ((10 : Int32).toUInt32 &&& Int32.toUInt32 31)).toInt32) dX7_round_168 rfl ?_
    refine gx_ixor X dX7_round_169 ?_
    refine gx_iadd X dX7_round_170 ?_
    obtain ⟨k36, h⟩ := h
    obtain ⟨k37, h⟩ := h
    refine gx_iast X k36 k37 dX7_round_171 ?_
    refine gx_nams (fun u38 eu38 => ?_)
    replace h := h u38 eu38
    obtain ⟨x39, ex39⟩ : ∃ y : Int32, y = v1 + 1 := ⟨_, rfl⟩
    replace h := h x39 ex39
    refine gx_iinc X (v := x39) (lv' := [(1, .int x39), (3, .int x24), (2, .int x22), (0, .ref (ex_ad E v0))]) dX7_round_172 (j := 3) rfl (by rw [ex39]; rfl) (by decide) rfl ?_
    refine gx_goto X (tgt := 85) dX7_round_175 (by decide) ?_
    exact gx_sub [3, 0] rfl h
set_option maxHeartbeats 4000000 in
set_option maxRecDepth 100000 in
theorem w_X7_round_244 {E : gx_E} (X : gx_X E cX7_round 12 RX7 none) (hd : 1 ≤ ex_d E) {post : gx_S → Prop} (hQ : ex_Q E = va_Qv post (gx_B (ex_Z E)) (gx_A (ex_Z E))) {u : gx_S} {v0 : Nat} {v1 : Int32} {v2 : Int32} {v3 : Int32} {v4 : Int32} {v5 : Int32} {v6 : Int32} {v7 : Int32} {v8 : Int32} {v9 : Int32} (h : (((64 : Int32) ≤ v9 → (gx_isO v0 6 ∧ (gx_isR (gx_r u v0 1) .int ∧ vp_in (0 : Int32) (gx_len (gx_r u v0 1)) ∧ (gx_isA (gx_r u v0 1) .int ∧ vp_in (0 : Int32) (gx_len (gx_r u v0 1)) ∧ ∀ u6 : gx_S, u6 = gx_pa u (gx_r u v0 1) (upd (gx_a u (gx_r u v0 1)) (0 : Int32).toNatClampNeg ((gx_a u (gx_r u v0 1) (0 : Int32).toNatClampNeg) + v1)) → (gx_isR (gx_r u6 v0 1) .int ∧ vp_in (1 : Int32) (gx_len (gx_r u6 v0 1)) ∧ (gx_isA (gx_r u6 v0 1) .int ∧ vp_in (1 : Int32) (gx_len (gx_r u6 v0 1)) ∧ ∀ u11 : gx_S, u11 = gx_pa u6 (gx_r u6 v0 1) (upd (gx_a u6 (gx_r u6 v0 1)) (1 : Int32).toNatClampNeg ((gx_a u6 (gx_r u6 v0 1) (1 : Int32).toNatClampNeg) + v2)) → (gx_isR (gx_r u11 v0 1) .int ∧ vp_in (2 : Int32) (gx_len (gx_r u11 v0 1)) ∧ (gx_isA (gx_r u11 v0 1) .int ∧ vp_in (2 : Int32) (gx_len (gx_r u11 v0 1)) ∧ ∀ u16 : gx_S, u16 = gx_pa u11 (gx_r u11 v0 1) (upd (gx_a u11 (gx_r u11 v0 1)) (2 : Int32).toNatClampNeg ((gx_a u11 (gx_r u11 v0 1) (2 : Int32).toNatClampNeg) + v3)) → (gx_isR (gx_r u16 v0 1) .int ∧ vp_in (3 : Int32) (gx_len (gx_r u16 v0 1)) ∧ (gx_isA (gx_r u16 v0 1) .int ∧ vp_in (3 : Int32) (gx_len (gx_r u16 v0 1)) ∧ ∀ u21 : gx_S, u21 = gx_pa u16 (gx_r u16 v0 1) (upd (gx_a u16 (gx_r u16 v0 1)) (3 : Int32).toNatClampNeg ((gx_a u16 (gx_r u16 v0 1) (3 : Int32).toNatClampNeg) + v4)) → (gx_isR (gx_r u21 v0 1) .int ∧ vp_in (4 : Int32) (gx_len (gx_r u21 v0 1)) ∧ (gx_isA (gx_r u21 v0 1) .int ∧ vp_in (4 : Int32) (gx_len (gx_r u21 v0 1)) ∧ ∀ u26 : gx_S, u26 = gx_pa u21 (gx_r u21 v0 1) (upd (gx_a u21 (gx_r u21 v0 1)) (4 : Int32).toNatClampNeg ((gx_a u21 (gx_r u21 v0 1) (4 : Int32).toNatClampNeg) + v5)) → (gx_isR (gx_r u26 v0 1) .int ∧ vp_in (5 : Int32) (gx_len (gx_r u26 v0 1)) ∧ (gx_isA (gx_r u26 v0 1) .int ∧ vp_in (5 : Int32) (gx_len (gx_r u26 v0 1)) ∧ ∀ u31 : gx_S, u31 = gx_pa u26 (gx_r u26 v0 1) (upd (gx_a u26 (gx_r u26 v0 1)) (5 : Int32).toNatClampNeg ((gx_a u26 (gx_r u26 v0 1) (5 : Int32).toNatClampNeg) + v6)) → (gx_isR (gx_r u31 v0 1) .int ∧ vp_in (6 : Int32) (gx_len (gx_r u31 v0 1)) ∧ (gx_isA (gx_r u31 v0 1) .int ∧ vp_in (6 : Int32) (gx_len (gx_r u31 v0 1)) ∧ ∀ u36 : gx_S, u36 = gx_pa u31 (gx_r u31 v0 1) (upd (gx_a u31 (gx_r u31 v0 1)) (6 : Int32).toNatClampNeg ((gx_a u31 (gx_r u31 v0 1) (6 : Int32).toNatClampNeg) + v7)) → (gx_isR (gx_r u36 v0 1) .int ∧ vp_in (7 : Int32) (gx_len (gx_r u36 v0 1)) ∧ (gx_isA (gx_r u36 v0 1) .int ∧ vp_in (7 : Int32) (gx_len (gx_r u36 v0 1)) ∧ ∀ u41 : gx_S, u41 = gx_pa u36 (gx_r u36 v0 1) (upd (gx_a u36 (gx_r u36 v0 1)) (7 : Int32).toNatClampNeg ((gx_a u36 (gx_r u36 v0 1) (7 : Int32).toNatClampNeg) + v8)) → post u41)))))))))))))))))) ∧ (¬ (64 : Int32) ≤ v9 → (S_J6_rotateRight_7cf53 u v5 (6 : Int32) (fun (r43 : Int32) (u42 : gx_S) => (S_J6_rotateRight_7cf53 u42 v5 (11 : Int32) (fun (r45 : Int32) (u44 : gx_S) => (S_J6_rotateRight_7cf53 u44 v5 (25 : Int32) (fun (r47 : Int32) (u46 : gx_S) => (gx_isO v0 6 ∧ (gx_isR (gx_r u46 v0 3) .int ∧ vp_in v9 (gx_len (gx_r u46 v0 3)) ∧ (gx_isR (gx_r u46 v0 2) .int ∧ vp_in v9 (gx_len (gx_r u46 v0 2)) ∧ (∀ x53 : Int32, x53 = ((((v8 + ((r43 ^^^ r45) ^^^ r47)) + ((v5 &&& v6) ^^^ ((v5 ^^^ (-1 : Int32)) &&& v7))) + (gx_a u46 (gx_r u46 v0 3) v9.toNatClampNeg)) + (gx_a u46 (gx_r u46 v0 2) v9.toNatClampNeg)) → (S_J6_rotateRight_7cf53 u46 v1 (2 : Int32) (fun (r55 : Int32) (u54 : gx_S) => (S_J6_rotateRight_7cf53 u54 v1 (13 : Int32) (fun (r57 : Int32) (u56 : gx_S) => (S_J6_rotateRight_7cf53 u56 v1 (22 : Int32) (fun (r59 : Int32) (u58 : gx_S) => (∀ x60 : Int32, x60 = (((r55 ^^^ r57) ^^^ r59) + (((v1 &&& v2) ^^^ (v1 &&& v3)) ^^^ (v2 &&& v3))) → (∀ x61 : Int32, x61 = (v4 + x53) → (∀ x62 : Int32, x62 = (x53 + x60) → (∀ x63 : Int32, x63 = v9 + 1 → J_X7_round_244 E v0 x62 v1 v2 v3 x61 v5 v6 v7 x63 u58))))))))))))))))))))))) : gx_Wc E 12 244 [(0, .ref (ex_ad E v0)), (1, .int v1), (2, .int v2), (3, .int v3), (4, .int v4), (5, .int v5), (6, .int v6), (7, .int v7), (8, .int v8), (9, .int v9)] [] u := by
  refine gx_iload X (j := 9) dX7_round_244 rfl ?_
  refine gx_bipush X (v := 64) dX7_round_246 (by decide) ?_
  refine gx_icmp_ge X (tgt := 380) dX7_round_248 (by decide) (fun c64 => ?_) (fun c64 => ?_)
  · replace h := h.1 c64
    refine gx_aload_n X (j := 0) dX7_round_380 rfl rfl ?_
    obtain ⟨k1, h⟩ := h
    refine gx_get X k1 rfl iwX7 1 (by decide) mw_500 (v := .ref (ex_ad E (gx_r u v0 1))) rfl dX7_round_381 ?_
    refine gx_iconst X (v := 0) dX7_round_384 (by decide) ?_
    refine gx_dup2_11 X dX7_round_385 rfl rfl ?_
    obtain ⟨k2, h⟩ := h
    obtain ⟨k3, h⟩ := h
    refine gx_iald X k2 k3 dX7_round_386 ?_
    refine gx_iload_n X (j := 1) dX7_round_387 rfl rfl ?_
    refine gx_iadd X dX7_round_388 ?_
    obtain ⟨k4, h⟩ := h
    obtain ⟨k5, h⟩ := h
    refine gx_iast X k4 k5 dX7_round_389 ?_
    refine gx_nams (fun u6 eu6 => ?_)
    replace h := h u6 eu6
    refine gx_aload_n X (j := 0) dX7_round_390 rfl rfl ?_
    refine gx_get X k1 rfl iwX7 1 (by decide) mw_500 (v := .ref (ex_ad E (gx_r u6 v0 1))) rfl dX7_round_391 ?_
    refine gx_iconst X (v := 1) dX7_round_394 (by decide) ?_
    refine gx_dup2_11 X dX7_round_395 rfl rfl ?_
    obtain ⟨k7, h⟩ := h
    obtain ⟨k8, h⟩ := h
    refine gx_iald X k7 k8 dX7_round_396 ?_
    refine gx_iload_n X (j := 2) dX7_round_397 rfl rfl ?_
    refine gx_iadd X dX7_round_398 ?_
    obtain ⟨k9, h⟩ := h
    obtain ⟨k10, h⟩ := h
    refine gx_iast X k9 k10 dX7_round_399 ?_
    refine gx_nams (fun u11 eu11 => ?_)
    replace h := h u11 eu11
    refine gx_aload_n X (j := 0) dX7_round_400 rfl rfl ?_
    refine gx_get X k1 rfl iwX7 1 (by decide) mw_500 (v := .ref (ex_ad E (gx_r u11 v0 1))) rfl dX7_round_401 ?_
    refine gx_iconst X (v := 2) dX7_round_404 (by decide) ?_
    refine gx_dup2_11 X dX7_round_405 rfl rfl ?_
    obtain ⟨k12, h⟩ := h
    obtain ⟨k13, h⟩ := h
    refine gx_iald X k12 k13 dX7_round_406 ?_
    refine gx_iload_n X (j := 3) dX7_round_407 rfl rfl ?_
    refine gx_iadd X dX7_round_408 ?_
    obtain ⟨k14, h⟩ := h
    obtain ⟨k15, h⟩ := h
    refine gx_iast X k14 k15 dX7_round_409 ?_
    refine gx_nams (fun u16 eu16 => ?_)
    replace h := h u16 eu16
    refine gx_aload_n X (j := 0) dX7_round_410 rfl rfl ?_
    refine gx_get X k1 rfl iwX7 1 (by decide) mw_500 (v := .ref (ex_ad E (gx_r u16 v0 1))) rfl dX7_round_411 ?_
    refine gx_iconst X (v := 3) dX7_round_414 (by decide) ?_
    refine gx_dup2_11 X dX7_round_415 rfl rfl ?_
    obtain ⟨k17, h⟩ := h
    obtain ⟨k18, h⟩ := h
    refine gx_iald X k17 k18 dX7_round_416 ?_
    refine gx_iload X (j := 4) dX7_round_417 rfl ?_
    refine gx_iadd X dX7_round_419 ?_
    obtain ⟨k19, h⟩ := h
    obtain ⟨k20, h⟩ := h
    refine gx_iast X k19 k20 dX7_round_420 ?_
    refine gx_nams (fun u21 eu21 => ?_)
    replace h := h u21 eu21
    refine gx_aload_n X (j := 0) dX7_round_421 rfl rfl ?_
    refine gx_get X k1 rfl iwX7 1 (by decide) mw_500 (v := .ref (ex_ad E (gx_r u21 v0 1))) rfl dX7_round_422 ?_
    refine gx_iconst X (v := 4) dX7_round_425 (by decide) ?_
    refine gx_dup2_11 X dX7_round_426 rfl rfl ?_
    obtain ⟨k22, h⟩ := h
    obtain ⟨k23, h⟩ := h
    refine gx_iald X k22 k23 dX7_round_427 ?_
    refine gx_iload X (j := 5) dX7_round_428 rfl ?_
    refine gx_iadd X dX7_round_430 ?_
    obtain ⟨k24, h⟩ := h
    obtain ⟨k25, h⟩ := h
    refine gx_iast X k24 k25 dX7_round_431 ?_
    refine gx_nams (fun u26 eu26 => ?_)
    replace h := h u26 eu26
    refine gx_aload_n X (j := 0) dX7_round_432 rfl rfl ?_
    refine gx_get X k1 rfl iwX7 1 (by decide) mw_500 (v := .ref (ex_ad E (gx_r u26 v0 1))) rfl dX7_round_433 ?_
    refine gx_iconst X (v := 5) dX7_round_436 (by decide) ?_
    refine gx_dup2_11 X dX7_round_437 rfl rfl ?_
    obtain ⟨k27, h⟩ := h
    obtain ⟨k28, h⟩ := h
    refine gx_iald X k27 k28 dX7_round_438 ?_
    refine gx_iload X (j := 6) dX7_round_439 rfl ?_
    refine gx_iadd X dX7_round_441 ?_
    obtain ⟨k29, h⟩ := h
    obtain ⟨k30, h⟩ := h
    refine gx_iast X k29 k30 dX7_round_442 ?_
    refine gx_nams (fun u31 eu31 => ?_)
    replace h := h u31 eu31
    refine gx_aload_n X (j := 0) dX7_round_443 rfl rfl ?_
    refine gx_get X k1 rfl iwX7 1 (by decide) mw_500 (v := .ref (ex_ad E (gx_r u31 v0 1))) rfl dX7_round_444 ?_
    refine gx_bipush X (v := 6) dX7_round_447 (by decide) ?_
    refine gx_dup2_11 X dX7_round_449 rfl rfl ?_
    obtain ⟨k32, h⟩ := h
    obtain ⟨k33, h⟩ := h
    refine gx_iald X k32 k33 dX7_round_450 ?_
    refine gx_iload X (j := 7) dX7_round_451 rfl ?_
    refine gx_iadd X dX7_round_453 ?_
    obtain ⟨k34, h⟩ := h
    obtain ⟨k35, h⟩ := h
    refine gx_iast X k34 k35 dX7_round_454 ?_
    refine gx_nams (fun u36 eu36 => ?_)
    replace h := h u36 eu36
    refine gx_aload_n X (j := 0) dX7_round_455 rfl rfl ?_
    refine gx_get X k1 rfl iwX7 1 (by decide) mw_500 (v := .ref (ex_ad E (gx_r u36 v0 1))) rfl dX7_round_456 ?_
    refine gx_bipush X (v := 7) dX7_round_459 (by decide) ?_
    refine gx_dup2_11 X dX7_round_461 rfl rfl ?_
    obtain ⟨k37, h⟩ := h
    obtain ⟨k38, h⟩ := h
    refine gx_iald X k37 k38 dX7_round_462 ?_
    refine gx_iload X (j := 8) dX7_round_463 rfl ?_
    refine gx_iadd X dX7_round_465 ?_
    obtain ⟨k39, h⟩ := h
    obtain ⟨k40, h⟩ := h
    refine gx_iast X k39 k40 dX7_round_466 ?_
    refine gx_nams (fun u41 eu41 => ?_)
    replace h := h u41 eu41
    exact gx_vret X hQ h dX7_round_467
  · replace h := h.2 c64
    refine gx_iload X (j := 8) dX7_round_251 rfl ?_
    refine gx_iload X (j := 5) dX7_round_253 rfl ?_
    refine gx_bipush X (v := 6) dX7_round_255 (by decide) ?_
    refine gx_ki (gx_rS X (c_J6_rotateRight_7cf53 h) (Nat.le_trans (by decide) hd) (Nat.le_trans (by decide) (Nat.mul_le_mul_left 40 hd)) mw_739 mw_740 mw_14 mw_741 hyJ6_rotateRight_7cf53 (As := [.int v5, .int (6 : Int32)]) (rest := [.int v8]) rfl rfl (Nat.le_of_ble_eq_true rfl) dX7_round_257) (fun r43 u42 h => ?_)
    refine gx_iload X (j := 5) dX7_round_260 rfl ?_
    refine gx_bipush X (v := 11) dX7_round_262 (by decide) ?_
    refine gx_ki (gx_rS X (c_J6_rotateRight_7cf53 h) (Nat.le_trans (by decide) hd) (Nat.le_trans (by decide) (Nat.mul_le_mul_left 40 hd)) mw_739 mw_740 mw_14 mw_741 hyJ6_rotateRight_7cf53 (As := [.int v5, .int (11 : Int32)]) (rest := [.int r43, .int v8]) rfl rfl (Nat.le_of_ble_eq_true rfl) dX7_round_264) (fun r45 u44 h => ?_)
    refine gx_ixor X dX7_round_267 ?_
    refine gx_iload X (j := 5) dX7_round_268 rfl ?_
    refine gx_bipush X (v := 25) dX7_round_270 (by decide) ?_
    refine gx_ki (gx_rS X (c_J6_rotateRight_7cf53 h) (Nat.le_trans (by decide) hd) (Nat.le_trans (by decide) (Nat.mul_le_mul_left 40 hd)) mw_739 mw_740 mw_14 mw_741 hyJ6_rotateRight_7cf53 (As := [.int v5, .int (25 : Int32)]) (rest := [.int (r43 ^^^ r45), .int v8]) rfl rfl (Nat.le_of_ble_eq_true rfl) dX7_round_272) (fun r47 u46 h => ?_)
    refine gx_ixor X dX7_round_275 ?_
    refine gx_iadd X dX7_round_276 ?_
    refine gx_iload X (j := 5) dX7_round_277 rfl ?_
    refine gx_iload X (j := 6) dX7_round_279 rfl ?_
    refine gx_iand X dX7_round_281 ?_
    refine gx_iload X (j := 5) dX7_round_282 rfl ?_
    refine gx_iconst X (v := -1) dX7_round_284 (by decide) ?_
    refine gx_ixor X dX7_round_285 ?_
    refine gx_iload X (j := 7) dX7_round_286 rfl ?_
    refine gx_iand X dX7_round_288 ?_
    refine gx_ixor X dX7_round_289 ?_
    refine gx_iadd X dX7_round_290 ?_
    refine gx_aload_n X (j := 0) dX7_round_291 rfl rfl ?_
    obtain ⟨k48, h⟩ := h
    refine gx_get X k48 rfl iwX7 3 (by decide) mw_502 (v := .ref (ex_ad E (gx_r u46 v0 3))) rfl dX7_round_292 ?_
    refine gx_iload X (j := 9) dX7_round_295 rfl ?_
    obtain ⟨k49, h⟩ := h
    obtain ⟨k50, h⟩ := h
    refine gx_iald X k49 k50 dX7_round_297 ?_
    refine gx_iadd X dX7_round_298 ?_
    refine gx_aload_n X (j := 0) dX7_round_299 rfl rfl ?_
    refine gx_get X k48 rfl iwX7 2 (by decide) mw_501 (v := .ref (ex_ad E (gx_r u46 v0 2))) rfl dX7_round_300 ?_
    refine gx_iload X (j := 9) dX7_round_303 rfl ?_
    obtain ⟨k51, h⟩ := h
    obtain ⟨k52, h⟩ := h
    refine gx_iald X k51 k52 dX7_round_305 ?_
    refine gx_iadd X dX7_round_306 ?_
    refine gx_nami (fun x53 ex53 => ?_)
    replace h := h x53 ex53
    refine gx_istore X (lv' := [(10, .int x53), (0, .ref (ex_ad E v0)), (1, .int v1), (2, .int v2), (3, .int v3), (4, .int v4), (5, .int v5), (6, .int v6), (7, .int v7), (8, .int v8), (9, .int v9)]) dX7_round_307 (by decide) rfl ?_
    refine gx_iload_n X (j := 2) dX7_round_309 rfl rfl ?_
    refine gx_iconst X (v := 2) dX7_round_310 (by decide) ?_
    refine gx_ki (gx_rS X (c_J6_rotateRight_7cf53 h) (Nat.le_trans (by decide) hd) (Nat.le_trans (by decide) (Nat.mul_le_mul_left 40 hd)) mw_739 mw_740 mw_14 mw_741 hyJ6_rotateRight_7cf53 (As := [.int v1, .int (2 : Int32)]) (rest := []) rfl rfl (Nat.le_of_ble_eq_true rfl) dX7_round_311) (fun r55 u54 h => ?_)
    refine gx_iload_n X (j := 2) dX7_round_314 rfl rfl ?_
    refine gx_bipush X (v := 13) dX7_round_315 (by decide) ?_
    refine gx_ki (gx_rS X (c_J6_rotateRight_7cf53 h) (Nat.le_trans (by decide) hd) (Nat.le_trans (by decide) (Nat.mul_le_mul_left 40 hd)) mw_739 mw_740 mw_14 mw_741 hyJ6_rotateRight_7cf53 (As := [.int v1, .int (13 : Int32)]) (rest := [.int r55]) rfl rfl (Nat.le_of_ble_eq_true rfl) dX7_round_317) (fun r57 u56 h => ?_)
    refine gx_ixor X dX7_round_320 ?_
    refine gx_iload_n X (j := 2) dX7_round_321 rfl rfl ?_
    refine gx_bipush X (v := 22) dX7_round_322 (by decide) ?_
    refine gx_ki (gx_rS X (c_J6_rotateRight_7cf53 h) (Nat.le_trans (by decide) hd) (Nat.le_trans (by decide) (Nat.mul_le_mul_left 40 hd)) mw_739 mw_740 mw_14 mw_741 hyJ6_rotateRight_7cf53 (As := [.int v1, .int (22 : Int32)]) (rest := [.int (r55 ^^^ r57)]) rfl rfl (Nat.le_of_ble_eq_true rfl) dX7_round_324) (fun r59 u58 h => ?_)
    refine gx_ixor X dX7_round_327 ?_
    refine gx_iload_n X (j := 2) dX7_round_328 rfl rfl ?_
    refine gx_iload_n X (j := 3) dX7_round_329 rfl rfl ?_
    refine gx_iand X dX7_round_330 ?_
    refine gx_iload_n X (j := 2) dX7_round_331 rfl rfl ?_
    refine gx_iload_n X (j := 4) dX7_round_332 rfl rfl ?_
    refine gx_iand X dX7_round_333 ?_
    refine gx_ixor X dX7_round_334 ?_
    refine gx_iload_n X (j := 3) dX7_round_335 rfl rfl ?_
    refine gx_iload_n X (j := 4) dX7_round_336 rfl rfl ?_
    refine gx_iand X dX7_round_337 ?_
    refine gx_ixor X dX7_round_338 ?_
    refine gx_iadd X dX7_round_339 ?_
    refine gx_nami (fun x60 ex60 => ?_)
    replace h := h x60 ex60
    refine gx_istore X (lv' := [(11, .int x60), (10, .int x53), (0, .ref (ex_ad E v0)), (1, .int v1), (2, .int v2), (3, .int v3), (4, .int v4), (5, .int v5), (6, .int v6), (7, .int v7), (8, .int v8), (9, .int v9)]) dX7_round_340 (by decide) rfl ?_
    refine gx_iload X (j := 9) dX7_round_342 rfl ?_
    refine gx_istore X (lv' := [(8, .int v7), (11, .int x60), (10, .int x53), (0, .ref (ex_ad E v0)), (1, .int v1), (2, .int v2), (3, .int v3), (4, .int v4), (5, .int v5), (6, .int v6), (7, .int v7), (9, .int v9)]) dX7_round_344 (by decide) rfl ?_
    refine gx_iload X (j := 9) dX7_round_346 rfl ?_
    refine gx_istore X (lv' := [(7, .int v6), (8, .int v7), (11, .int x60), (10, .int x53), (0, .ref (ex_ad E v0)), (1, .int v1), (2, .int v2), (3, .int v3), (4, .int v4), (5, .int v5), (6, .int v6), (9, .int v9)]) dX7_round_348 (by decide) rfl ?_
    refine gx_iload X (j := 9) dX7_round_350 rfl ?_
    refine gx_istore X (lv' := [(6, .int v5), (7, .int v6), (8, .int v7), (11, .int x60), (10, .int x53), (0, .ref (ex_ad E v0)), (1, .int v1), (2, .int v2), (3, .int v3), (4, .int v4), (5, .int v5), (9, .int v9)]) dX7_round_352 (by decide) rfl ?_
    refine gx_iload X (j := 9) dX7_round_354 rfl ?_
    refine gx_iload X (j := 4) dX7_round_356 rfl ?_
    refine gx_iadd X dX7_round_358 ?_
    refine gx_nami (fun x61 ex61 => ?_)
    replace h := h x61 ex61
    refine gx_istore X (lv' := [(5, .int x61), (6, .int v5), (7, .int v6), (8, .int v7), (11, .int x60), (10, .int x53), (0, .ref (ex_ad E v0)), (1, .int v1), (2, .int v2), (3, .int v3), (4, .int v4), (9, .int v9)]) dX7_round_359 (by decide) rfl ?_
    refine gx_iload_n X (j := 9) dX7_round_361 rfl rfl ?_
    refine gx_istore X (lv' := [(4, .int v3), (5, .int x61), (6, .int v5), (7, .int v6), (8, .int v7), (11, .int x60), (10, .int x53), (0, .ref (ex_ad E v0)), (1, .int v1), (2, .int v2), (3, .int v3), (9, .int v9)]) dX7_round_362 (by decide) rfl ?_
    refine gx_iload_n X (j := 9) dX7_round_364 rfl rfl ?_
    refine gx_istore_n X (lv' := [(3, .int v2), (4, .int v3), (5, .int x61), (6, .int v5), (7, .int v6), (8, .int v7), (11, .int x60), (10, .int x53), (0, .ref (ex_ad E v0)), (1, .int v1), (2, .int v2), (9, .int v9)]) dX7_round_365 rfl (by decide) rfl ?_
    refine gx_iload_n X (j := 9) dX7_round_366 rfl rfl ?_
    refine gx_istore_n X (lv' := [(2, .int v1), (3, .int v2), (4, .int v3), (5, .int x61), (6, .int v5), (7, .int v6), (8, .int v7), (11, .int x60), (10, .int x53), (0, .ref (ex_ad E v0)), (1, .int v1), (9, .int v9)]) dX7_round_367 rfl (by decide) rfl ?_
    refine gx_iload X (j := 8) dX7_round_368 rfl ?_
    refine gx_iload X (j := 7) dX7_round_370 rfl ?_
    refine gx_iadd X dX7_round_372 ?_
    refine gx_nami (fun x62 ex62 => ?_)
    replace h := h x62 ex62
    refine gx_istore_n X (lv' := [(1, .int x62), (2, .int v1), (3, .int v2), (4, .int v3), (5, .int x61), (6, .int v5), (7, .int v6), (8, .int v7), (11, .int x60), (10, .int x53), (0, .ref (ex_ad E v0)), (9, .int v9)]) dX7_round_373 rfl (by decide) rfl ?_
    obtain ⟨x63, ex63⟩ : ∃ y : Int32, y = v9 + 1 := ⟨_, rfl⟩
    replace h := h x63 ex63
    refine gx_iinc X (v := x63) (lv' := [(9, .int x63), (1, .int x62), (2, .int v1), (3, .int v2), (4, .int v3), (5, .int x61), (6, .int v5), (7, .int v6), (8, .int v7), (11, .int x60), (10, .int x53), (0, .ref (ex_ad E v0))]) dX7_round_374 (j := 11) rfl (by rw [ex63]; rfl) (by decide) rfl ?_
    refine gx_goto X (tgt := 244) dX7_round_377 (by decide) ?_
    exact gx_sub [11, 1, 2, 3, 4, 5, 6, 7, 8, 0] rfl h
-- one block
theorem isO27 : gx_isO 27 6 := isO_x 27 6 (by decide)
theorem isA47 : gx_isA 47 .int := ⟨by decide, rfl⟩
theorem isA48 : gx_isA 48 .int := ⟨by decide, rfl⟩
theorem isA49 : gx_isA 49 .int := ⟨by decide, rfl⟩
theorem isA50 : gx_isA 50 .int := ⟨by decide, rfl⟩
theorem isA51 : gx_isA 51 .byte := ⟨by decide, rfl⟩
theorem in48 {i : Nat} (h : i < 8) : vp_in (nI i) (gx_len 48) := vp_in_nI (N := 8) h (by omega)
theorem in49 {i : Nat} (h : i < 64) : vp_in (nI i) (gx_len 49) := vp_in_nI (N := 64) h (by omega)
theorem in50 {i : Nat} (h : i < 64) : vp_in (nI i) (gx_len 50) := vp_in_nI (N := 64) h (by omega)
theorem in51 {i : Nat} (h : i < 64) : vp_in (nI i) (gx_len 51) := vp_in_nI (N := 64) h (by omega)
theorem b24 : ∀ c, c < 256 → sb_b c <<< ((24 : Int32) &&& 31) = nI (c * 2 ^ 24) := by decide +kernel
theorem b16 : ∀ c, c < 256 → (sb_b c &&& 255) <<< ((16 : Int32) &&& 31) = nI (c * 2 ^ 16) := by decide +kernel
theorem b08 : ∀ c, c < 256 → (sb_b c &&& 255) <<< ((8 : Int32) &&& 31) = nI (c * 2 ^ 8) := by decide +kernel
/-- a word of four bytes -/
def wd4 (B : Nat → Nat) (i : Nat) : Int32 := nI (((B i * 256 + B (i + 1)) * 256 + B (i + 2)) * 256 + B (i + 3))
theorem wd4_or {a b c d : Nat} (ha : a < 256) (hb : b < 256) (hc : c < 256) (hd : d < 256) : ((sb_b a <<< ((24 : Int32) &&& 31) ||| ((sb_b b &&& 255) <<< ((16 : Int32) &&& 31))) ||| ((sb_b c &&& 255) <<< ((8 : Int32) &&& 31))) ||| (sb_b d &&& 255) = nI (((a * 256 + b) * 256 + c) * 256 + d) := by
  rw [b24 a ha, b16 b hb, b08 c hc, sb_nI hd, nI_or (by omega) (by omega)]
  have e1 : a * 2 ^ 24 ||| b * 2 ^ 16 = a * 2 ^ 24 + b * 2 ^ 16 := by
    rw [Nat.mul_comm a, ← Nat.two_pow_add_eq_or_of_lt (by omega)]
  rw [e1, nI_or (by omega) (by omega)]
  have e2 : a * 2 ^ 24 + b * 2 ^ 16 ||| c * 2 ^ 8 = a * 2 ^ 24 + b * 2 ^ 16 + c * 2 ^ 8 := by
    rw [show a * 2 ^ 24 + b * 2 ^ 16 = 2 ^ 16 * (a * 2 ^ 8 + b) by omega, ← Nat.two_pow_add_eq_or_of_lt (by omega)]
  rw [e2, nI_or (by omega) (by omega)]
  have e3 : a * 2 ^ 24 + b * 2 ^ 16 + c * 2 ^ 8 ||| d = a * 2 ^ 24 + b * 2 ^ 16 + c * 2 ^ 8 + d := by
    rw [show a * 2 ^ 24 + b * 2 ^ 16 + c * 2 ^ 8 = 2 ^ 8 * (a * 2 ^ 16 + b * 2 ^ 8 + c) by omega, ← Nat.two_pow_add_eq_or_of_lt (by omega)]
  rw [e3]
  exact congrArg nI (by omega)
theorem ad4 (a b c d : Int32) : ((a + b) + c) + d = ((d + c) + b) + a := by ac_rfl
theorem i_rot {u : gx_S} {x k : Int32} {post : Int32 → gx_S → Prop} (hk : (-k) &&& 31 = (32 - k) &&& 31) (h : post (tr x k) u) : S_J6_rotateRight_7cf53 u x k post := by
  unfold S_J6_rotateRight_7cf53
  rw [hk]
  exact h
def wd16 (B : Nat → Nat) (i : Nat) : Int32 := wd4 B (4 * i)
theorem exA_mfix {A : List Nat} {u v : gx_S} {t : Nat} (h : exA A u v) (hf : mfix t u) : mfix t v := fun o k h1 h2 => (exA_r h o k).trans (hf o k h1 h2)
theorem exA_G {A : List Nat} {u v : gx_S} (h : exA A u v) : exG A [] u v := ⟨fun o k _ => exA_i h o k, fun o k => exA_r h o k, fun a ha => h.2.2.2 a ha⟩
def S_X7_round (u : gx_S) (v0 : Nat) (post : gx_S → Prop) : Prop := v0 = 27 ∧ ∃ (t : Nat) (s K : Nat → Int32) (B : Nat → Nat), mfix t u ∧ (∀ j, j < 8 → gx_a u 48 j = s j) ∧ (∀ j, j < 64 → gx_a u 50 j = K j) ∧ (∀ j, j < 64 → gx_a u 51 j = sb_b (B j) ∧ B j < 256) ∧ ∀ v, exA [48, 49] u v → (∀ j, j < 8 → gx_a v 48 j = blk s K (schF (wd16 B) 48) j) → post v
theorem lph244 {E : gx_E} (X : gx_X E cX7_round 12 RX7 none) (hd : 1 ≤ ex_d E) {post : gx_S → Prop} (hQ : ex_Q E = va_Qv post (gx_B (ex_Z E)) (gx_A (ex_Z E))) {u : gx_S} {t : Nat} {s K W : Nat → Int32} (hf : mfix t u) (hs : ∀ j, j < 8 → gx_a u 48 j = s j) (hK : ∀ j, j < 64 → gx_a u 50 j = K j) (hW : ∀ j, j < 64 → gx_a u 49 j = W j) (hp : ∀ v, exA [48, 49] u v → (∀ j, j < 8 → gx_a v 48 j = blk s K W j) → post v) :
    ∀ (n i : Nat), 64 - i = n → i ≤ 64 → J_X7_round_244 E 27 (mx s K W i 0) (mx s K W i 1) (mx s K W i 2) (mx s K W i 3) (mx s K W i 4) (mx s K W i 5) (mx s K W i 6) (mx s K W i 7) (nI i) u := by
  intro n
  induction n with
  | zero =>
    intro i hn hi
    have ei : i = 64 := by omega
    subst ei
    have x0 := exA_rf [48, 49] u
    refine w_X7_round_244 X hd hQ ⟨fun _ => ⟨isO27, ?_⟩, fun q => absurd (nI_le (a := 64) (by omega) (by omega)) q⟩
    have r : ∀ v, exA [48, 49] u v → gx_r v 27 1 = 48 := fun v xv => exA_mfix xv hf 27 1 (by decide) (by decide)
    rw [r u x0]
    refine ⟨isA48.r, in48 (i := 0) (by omega), isA48, in48 (i := 0) (by omega), fun u1 e1 => ?_⟩
    have x1 : exA [48, 49] u u1 := by rw [e1]; exact exA_pa _ _ (by simp)
    rw [r u1 x1]
    refine ⟨isA48.r, in48 (i := 1) (by omega), isA48, in48 (i := 1) (by omega), fun u2 e2 => ?_⟩
    have x2 : exA [48, 49] u u2 := exA_tr x1 (by rw [e2]; exact exA_pa _ _ (by simp))
    rw [r u2 x2]
    refine ⟨isA48.r, in48 (i := 2) (by omega), isA48, in48 (i := 2) (by omega), fun u3 e3 => ?_⟩
    have x3 : exA [48, 49] u u3 := exA_tr x2 (by rw [e3]; exact exA_pa _ _ (by simp))
    rw [r u3 x3]
    refine ⟨isA48.r, in48 (i := 3) (by omega), isA48, in48 (i := 3) (by omega), fun u4 e4 => ?_⟩
    have x4 : exA [48, 49] u u4 := exA_tr x3 (by rw [e4]; exact exA_pa _ _ (by simp))
    rw [r u4 x4]
    refine ⟨isA48.r, in48 (i := 4) (by omega), isA48, in48 (i := 4) (by omega), fun u5 e5 => ?_⟩
    have x5 : exA [48, 49] u u5 := exA_tr x4 (by rw [e5]; exact exA_pa _ _ (by simp))
    rw [r u5 x5]
    refine ⟨isA48.r, in48 (i := 5) (by omega), isA48, in48 (i := 5) (by omega), fun u6 e6 => ?_⟩
    have x6 : exA [48, 49] u u6 := exA_tr x5 (by rw [e6]; exact exA_pa _ _ (by simp))
    rw [r u6 x6]
    refine ⟨isA48.r, in48 (i := 6) (by omega), isA48, in48 (i := 6) (by omega), fun u7 e7 => ?_⟩
    have x7 : exA [48, 49] u u7 := exA_tr x6 (by rw [e7]; exact exA_pa _ _ (by simp))
    rw [r u7 x7]
    refine ⟨isA48.r, in48 (i := 7) (by omega), isA48, in48 (i := 7) (by omega), fun u8 e8 => ?_⟩
    have x8 : exA [48, 49] u u8 := exA_tr x7 (by rw [e8]; exact exA_pa _ _ (by simp))
    refine hp u8 x8 ?_
    have c0 : (0 : Int32).toNatClampNeg = 0 := by decide
    have c1 : (1 : Int32).toNatClampNeg = 1 := by decide
    have c2 : (2 : Int32).toNatClampNeg = 2 := by decide
    have c3 : (3 : Int32).toNatClampNeg = 3 := by decide
    have c4 : (4 : Int32).toNatClampNeg = 4 := by decide
    have c5 : (5 : Int32).toNatClampNeg = 5 := by decide
    have c6 : (6 : Int32).toNatClampNeg = 6 := by decide
    have c7 : (7 : Int32).toNatClampNeg = 7 := by decide
    rw [c0] at e1
    rw [c1] at e2
    rw [c2] at e3
    rw [c3] at e4
    rw [c4] at e5
    rw [c5] at e6
    rw [c6] at e7
    rw [c7] at e8
    have st : ∀ (a b : gx_S) (k : Nat) (z : Int32), b = gx_pa a 48 (upd (gx_a a 48) k (gx_a a 48 k + z)) → ∀ j, gx_a b 48 j = if j = k then gx_a a 48 k + z else gx_a a 48 j := by
      intro a b k z e j
      rw [e, gx_a_pa, if_pos rfl]
      by_cases w : j = k
      · rw [w, pk_us, if_pos rfl]
      · rw [pk_un w, if_neg w]
    intro j hj
    unfold blk
    have y1 := st _ _ _ _ e1
    have y2 := st _ _ _ _ e2
    have y3 := st _ _ _ _ e3
    have y4 := st _ _ _ _ e4
    have y5 := st _ _ _ _ e5
    have y6 := st _ _ _ _ e6
    have y7 := st _ _ _ _ e7
    have y8 := st _ _ _ _ e8
    rw [← hs j hj]
    have : j = 0 ∨ j = 1 ∨ j = 2 ∨ j = 3 ∨ j = 4 ∨ j = 5 ∨ j = 6 ∨ j = 7 := by omega
    rcases this with rfl | rfl | rfl | rfl | rfl | rfl | rfl | rfl <;> simp [y1, y2, y3, y4, y5, y6, y7, y8]
  | succ n ih =>
    intro i hn hi
    refine w_X7_round_244 X hd hQ ⟨fun q => absurd q (nI_ge (b := 64) (by omega) (by omega)), fun _ => ?_⟩
    refine i_rot (by decide) (i_rot (by decide) (i_rot (by decide) ⟨isO27, ?_⟩))
    rw [show gx_r u 27 3 = 50 from hf 27 3 (by decide) (by decide), show gx_r u 27 2 = 49 from hf 27 2 (by decide) (by decide), nI_clamp (by omega), hK i (by omega), hW i (by omega)]
    refine ⟨isA50.r, in50 (by omega), isA49.r, in49 (by omega), fun x53 e53 => i_rot (by decide) (i_rot (by decide) (i_rot (by decide) ?_))⟩
    intro x60 e60 x61 e61 x62 e62 x63 e63
    have f1 : x53 = fi1 (mx s K W i) (K i + W i) := by
      rw [e53]
      unfold fi1
      rw [← Int32.add_assoc]
    have f2 : x60 = fi2 (mx s K W i) := e60
    have m : ∀ j, mx s K W (i + 1) j = rnd (mx s K W i) (K i + W i) j := fun j => rfl
    have g0 : x62 = mx s K W (i + 1) 0 := by rw [e62, f1, f2]; rfl
    have g4 : x61 = mx s K W (i + 1) 4 := by rw [e61, f1]; rfl
    rw [e63, nI_1, g0, g4]
    exact ih (i + 1) (by omega) (by omega)
theorem schF_cg {g h : Nat → Int32} (e : ∀ j, j < 16 → g j = h j) : ∀ k j, j < 16 + k → schF g k j = schF h k j
  | 0, j, hj => e j hj
  | k + 1, j, hj => by
    unfold schF
    by_cases w : j = 16 + k
    · rw [w, pk_us, pk_us]
      exact cexp_cg (by omega) (fun i hi => schF_cg e k i hi)
    · rw [pk_un w, pk_un w]
      exact schF_cg e k j (by omega)
theorem schF_lo {g : Nat → Int32} : ∀ k m j, k ≤ m → j < 16 + k → schF g m j = schF g k j := by
  intro k m
  induction m with
  | zero => intro j h1 h2; rw [show k = 0 by omega]
  | succ m ih =>
    intro j h1 h2
    by_cases w : k = m + 1
    · rw [w]
    · conv => lhs; unfold schF
      rw [pk_un (by omega)]
      exact ih j (by omega) h2
theorem lph85 {E : gx_E} (X : gx_X E cX7_round 12 RX7 none) (hd : 1 ≤ ex_d E) {post : gx_S → Prop} (hQ : ex_Q E = va_Qv post (gx_B (ex_Z E)) (gx_A (ex_Z E))) {u0 : gx_S} {t : Nat} {s K g : Nat → Int32} (hf0 : mfix t u0) (hs : ∀ j, j < 8 → gx_a u0 48 j = s j) (hK : ∀ j, j < 64 → gx_a u0 50 j = K j) (hp : ∀ v, exA [48, 49] u0 v → (∀ j, j < 8 → gx_a v 48 j = blk s K (schF g 48) j) → post v) :
    ∀ (n k : Nat) (u : gx_S), 48 - k = n → k ≤ 48 → exA [49] u0 u → (∀ j, j < 16 + k → gx_a u 49 j = schF g k j) → J_X7_round_85 E 27 (nI (16 + k)) u := by
  intro n
  induction n with
  | zero =>
    intro k u hn hk hx hw
    have ek : k = 48 := by omega
    subst ek
    have hf := exA_mfix hx hf0
    have hs' : ∀ j, j < 8 → gx_a u 48 j = s j := fun j hj => by rw [hx.2.2.2 48 (by decide)]; exact hs j hj
    refine w_X7_round_85 X hd hQ ⟨fun _ => ⟨isO27, ?_⟩, fun q => absurd (nI_le (a := 64) (by omega) (by omega)) q⟩
    rw [show gx_r u 27 1 = 48 from hf 27 1 (by decide) (by decide)]
    refine ⟨isA48.r, in48 (i := 0) (by omega), fun y0 e0 => ⟨in48 (i := 1) (by omega), fun y1 e1 => ⟨in48 (i := 2) (by omega), fun y2 e2 => ⟨in48 (i := 3) (by omega), fun y3 e3 => ⟨in48 (i := 4) (by omega), fun y4 e4 => ⟨in48 (i := 5) (by omega), fun y5 e5 => ⟨in48 (i := 6) (by omega), fun y6 e6 => ⟨in48 (i := 7) (by omega), fun y7 e7 => ?_⟩⟩⟩⟩⟩⟩⟩⟩
    rw [show (0 : Int32).toNatClampNeg = 0 by decide, hs' 0 (by omega)] at e0
    rw [show (1 : Int32).toNatClampNeg = 1 by decide, hs' 1 (by omega)] at e1
    rw [show (2 : Int32).toNatClampNeg = 2 by decide, hs' 2 (by omega)] at e2
    rw [show (3 : Int32).toNatClampNeg = 3 by decide, hs' 3 (by omega)] at e3
    rw [show (4 : Int32).toNatClampNeg = 4 by decide, hs' 4 (by omega)] at e4
    rw [show (5 : Int32).toNatClampNeg = 5 by decide, hs' 5 (by omega)] at e5
    rw [show (6 : Int32).toNatClampNeg = 6 by decide, hs' 6 (by omega)] at e6
    rw [show (7 : Int32).toNatClampNeg = 7 by decide, hs' 7 (by omega)] at e7
    rw [e0, e1, e2, e3, e4, e5, e6, e7]
    exact lph244 X hd hQ hf hs' (fun j hj => by rw [hx.2.2.2 50 (by decide)]; exact hK j hj) hw (fun v xv mv => hp v (exA_tr (exA_wk hx (by simp)) xv) mv) 64 0 rfl (by omega)
  | succ n ih =>
    intro k u hn hk hx hw
    have hf := exA_mfix hx hf0
    have r2 : gx_r u 27 2 = 49 := hf 27 2 (by decide) (by decide)
    refine w_X7_round_85 X hd hQ ⟨fun q => absurd q (nI_ge (b := 64) (by omega) (by omega)), fun _ => ⟨isO27, ?_⟩⟩
    rw [r2, nsub (a := 16 + k) (b := 15) (by omega) (B := 15) rfl, nsub (a := 16 + k) (b := 2) (by omega) (B := 2) rfl, nsub (a := 16 + k) (b := 16) (by omega) (B := 16) rfl, nsub (a := 16 + k) (b := 7) (by omega) (B := 7) rfl]
    refine ⟨isA49.r, in49 (by omega), fun x22 e22 => ⟨in49 (by omega), fun x24 e24 => ⟨in49 (by omega), i_rot (by decide) (i_rot (by decide) ?_)⟩⟩⟩
    rw [r2]
    refine ⟨isA49.r, in49 (by omega), i_rot (by decide) (i_rot (by decide) ⟨isA49, in49 (by omega), fun u38 e38 x39 e39 => ?_⟩)⟩
    rw [nI_clamp (by omega), nI_clamp (by omega), nI_clamp (by omega), hw (16 + k - 16) (by omega), hw (16 + k - 7) (by omega)] at e38
    rw [nI_clamp (by omega), hw (16 + k - 15) (by omega)] at e22
    rw [nI_clamp (by omega), hw (16 + k - 2) (by omega)] at e24
    rw [e39, nI_1]
    have x38 : exA [49] u u38 := by rw [e38]; exact exA_pa _ _ (by simp)
    refine ih (k + 1) u38 (by omega) (by omega) (exA_tr hx x38) (fun j hj => ?_)
    rw [e38, gx_a_pa, if_pos rfl]
    show _ = upd (schF g k) (16 + k) (cexp (schF g k) (16 + k)) j
    by_cases w : j = 16 + k
    · rw [w, pk_us, pk_us]
      unfold cexp ush
      rw [e22, e24]
      exact ad4 _ _ _ _
    · rw [pk_un w, pk_un w]
      exact hw j (by omega)
theorem w_X7_round {E : gx_E} (X : gx_X E cX7_round 12 RX7 none) (hd : 1 ≤ ex_d E) {post : gx_S → Prop} (hQ : ex_Q E = va_Qv post (gx_B (ex_Z E)) (gx_A (ex_Z E))) {u : gx_S} {v0 : Nat} (h : S_X7_round u v0 post) : gx_Wc E 12 0 [(0, .ref (ex_ad E v0))] [] u := by
  obtain ⟨rfl, t, s, K, B, hf0, hs, hK, hB, hp⟩ := h
  have lp : ∀ (n i : Nat) (v : gx_S), 16 - i = n → i ≤ 16 → exA [49] u v → (∀ j, j < i → gx_a v 49 j = wd16 B j) → J_X7_round_2 E 27 (nI i) v := by
    intro n
    induction n with
    | zero =>
      intro i v hn hi hx hw
      have ei : i = 16 := by omega
      subst ei
      refine w_X7_round_2 X hd hQ ⟨fun _ => ?_, fun q => absurd (nI_le (a := 16) (by omega) (by omega)) q⟩
      refine lph85 X hd hQ (g := wd16 B) (exA_mfix hx hf0) (fun j hj => by rw [hx.2.2.2 48 (by decide)]; exact hs j hj) (fun j hj => by rw [hx.2.2.2 50 (by decide)]; exact hK j hj) (fun v' xv mv => hp v' (exA_tr (exA_wk hx (by simp)) xv) mv) 48 0 v rfl (by omega) (exA_rf _ _) hw
    | succ n ih =>
      intro i v hn hi hx hw
      have hf := exA_mfix hx hf0
      refine w_X7_round_2 X hd hQ ⟨fun q => absurd q (nI_ge (b := 16) (by omega) (by omega)), fun _ => ⟨isO27, ?_⟩⟩
      rw [show gx_r v 27 4 = 51 from hf 27 4 (by decide) (by decide), show gx_r v 27 2 = 49 from hf 27 2 (by decide) (by decide), show (4 : Int32) = nI 4 from rfl, pk_mul, nI_1, show (2 : Int32) = nI 2 from rfl, nI_add, show (3 : Int32) = nI 3 from rfl, nI_add, nI_clamp (show 4 * i < 2 ^ 31 by omega), nI_clamp (show 4 * i + 1 < 2 ^ 31 by omega), nI_clamp (show 4 * i + 2 < 2 ^ 31 by omega), nI_clamp (show 4 * i + 3 < 2 ^ 31 by omega), nI_clamp (show i < 2 ^ 31 by omega), hx.2.2.2 51 (by decide)]
      obtain ⟨b0, c0⟩ := hB (4 * i) (by omega)
      obtain ⟨b1, c1⟩ := hB (4 * i + 1) (by omega)
      obtain ⟨b2', c2⟩ := hB (4 * i + 2) (by omega)
      obtain ⟨b3, c3⟩ := hB (4 * i + 3) (by omega)
      rw [b0, b1, b2', b3]
      refine ⟨isA51.r, in51 (by omega), in51 (by omega), in51 (by omega), in51 (by omega), isA49, in49 (by omega), fun u9 e9 x10 e10 => ?_⟩
      rw [wd4_or c0 c1 c2 c3] at e9
      rw [e10, nI_1]
      refine ih (i + 1) u9 (by omega) (by omega) (exA_tr hx (by rw [e9]; exact exA_pa _ _ (by simp))) (fun j hj => ?_)
      rw [e9, gx_a_pa, if_pos rfl]
      by_cases w : j = i
      · rw [w, pk_us]; rfl
      · rw [pk_un w]; exact hw j (by omega)
  exact w_X7_round_0 X hd hQ (lp 16 0 u rfl (by omega) (exA_rf _ _) (fun j hj => absurd hj (by omega)))
theorem c_X7_round {l : Launch} {Z : gx_Z} {u : gx_S} {v0 : Nat} {post : gx_S → Prop} (h : S_X7_round u v0 post) : Met l yX7_round (Cond.code yX7_round cX7_round 12 none :: gx_TB) (gx_rm 1) (gx_Pre Z u [.ref (Z.2.1 v0)]) (va_Qv post (gx_B Z) (gx_A Z)) 0 0 (gx_A Z) := by
  refine gx_met (by decide +kernel) (Nat.le_of_ble_eq_true rfl) ?_
  intro E X hZ hQ hD hL
  subst hZ
  exact w_X7_round X (Nat.le_of_eq hD.symm) hQ h

-- PlainSealModel$Tags.read(I)Z
theorem dX8_read_0 : decode cX8_read 0 = .ok (.aload_n 0, 1) := by decide +kernel
theorem dX8_read_1 : decode cX8_read 1 = .ok (.iconst 0, 1) := by decide +kernel
theorem dX8_read_2 : decode cX8_read 2 = .ok (.putfield 30, 3) := by decide +kernel
theorem dX8_read_5 : decode cX8_read 5 = .ok (.iconst 0, 1) := by decide +kernel
theorem dX8_read_6 : decode cX8_read 6 = .ok (.istore_n 2, 1) := by decide +kernel
theorem dX8_read_7 : decode cX8_read 7 = .ok (.iload_n 2, 1) := by decide +kernel
theorem dX8_read_8 : decode cX8_read 8 = .ok (.aload_n 0, 1) := by decide +kernel
theorem dX8_read_9 : decode cX8_read 9 = .ok (.getfield 26, 3) := by decide +kernel
theorem dX8_read_12 : decode cX8_read 12 = .ok (.getfield 34, 3) := by decide +kernel
theorem dX8_read_15 : decode cX8_read 15 = .ok (.if_icmp .ge 222, 3) := by decide +kernel
theorem dX8_read_18 : decode cX8_read 18 = .ok (.iload_n 2, 1) := by decide +kernel
theorem dX8_read_19 : decode cX8_read 19 = .ok (.istore_n 3, 1) := by decide +kernel
theorem dX8_read_20 : decode cX8_read 20 = .ok (.iload_n 2, 1) := by decide +kernel
theorem dX8_read_21 : decode cX8_read 21 = .ok (.istore 4, 2) := by decide +kernel
theorem dX8_read_23 : decode cX8_read 23 = .ok (.iload_n 3, 1) := by decide +kernel
theorem dX8_read_24 : decode cX8_read 24 = .ok (.aload_n 0, 1) := by decide +kernel
theorem dX8_read_25 : decode cX8_read 25 = .ok (.getfield 26, 3) := by decide +kernel
theorem dX8_read_28 : decode cX8_read 28 = .ok (.getfield 34, 3) := by decide +kernel
theorem dX8_read_31 : decode cX8_read 31 = .ok (.if_icmp .ge 23, 3) := by decide +kernel
theorem dX8_read_34 : decode cX8_read 34 = .ok (.aload_n 0, 1) := by decide +kernel
theorem dX8_read_35 : decode cX8_read 35 = .ok (.getfield 26, 3) := by decide +kernel
theorem dX8_read_38 : decode cX8_read 38 = .ok (.getfield 37, 3) := by decide +kernel
theorem dX8_read_41 : decode cX8_read 41 = .ok (.iload_n 3, 1) := by decide +kernel
theorem dX8_read_42 : decode cX8_read 42 = .ok (.baload, 1) := by decide +kernel
theorem dX8_read_43 : decode cX8_read 43 = .ok (.bipush 59, 2) := by decide +kernel
theorem dX8_read_45 : decode cX8_read 45 = .ok (.if_icmp .eq 9, 3) := by decide +kernel
theorem dX8_read_48 : decode cX8_read 48 = .ok (.iinc 3 1, 3) := by decide +kernel
theorem dX8_read_51 : decode cX8_read 51 = .ok (.goto (-28), 3) := by decide +kernel
theorem dX8_read_54 : decode cX8_read 54 = .ok (.iload 4, 2) := by decide +kernel
theorem dX8_read_56 : decode cX8_read 56 = .ok (.iload_n 3, 1) := by decide +kernel
theorem dX8_read_57 : decode cX8_read 57 = .ok (.if_icmp .ge 25, 3) := by decide +kernel
theorem dX8_read_60 : decode cX8_read 60 = .ok (.aload_n 0, 1) := by decide +kernel
theorem dX8_read_61 : decode cX8_read 61 = .ok (.getfield 26, 3) := by decide +kernel
theorem dX8_read_64 : decode cX8_read 64 = .ok (.getfield 37, 3) := by decide +kernel
theorem dX8_read_67 : decode cX8_read 67 = .ok (.iload 4, 2) := by decide +kernel
theorem dX8_read_69 : decode cX8_read 69 = .ok (.baload, 1) := by decide +kernel
theorem dX8_read_70 : decode cX8_read 70 = .ok (.invokestatic 41, 3) := by decide +kernel
theorem dX8_read_73 : decode cX8_read 73 = .ok (.ifCond .eq 9, 3) := by decide +kernel
theorem dX8_read_76 : decode cX8_read 76 = .ok (.iinc 4 1, 3) := by decide +kernel
theorem dX8_read_79 : decode cX8_read 79 = .ok (.goto (-25), 3) := by decide +kernel
theorem dX8_read_82 : decode cX8_read 82 = .ok (.iload 4, 2) := by decide +kernel
theorem dX8_read_84 : decode cX8_read 84 = .ok (.iload_n 2, 1) := by decide +kernel
theorem dX8_read_85 : decode cX8_read 85 = .ok (.isub, 1) := by decide +kernel
theorem dX8_read_86 : decode cX8_read 86 = .ok (.i2l, 1) := by decide +kernel
theorem dX8_read_87 : decode cX8_read 87 = .ok (.lconst 1, 1) := by decide +kernel
theorem dX8_read_88 : decode cX8_read 88 = .ok (.iload_n 1, 1) := by decide +kernel
theorem dX8_read_89 : decode cX8_read 89 = .ok (.i2l, 1) := by decide +kernel
theorem dX8_read_90 : decode cX8_read 90 = .ok (.invokestatic 45, 3) := by decide +kernel
theorem dX8_read_93 : decode cX8_read 93 = .ok (.ifCond .eq 33, 3) := by decide +kernel
theorem dX8_read_96 : decode cX8_read 96 = .ok (.iload 4, 2) := by decide +kernel
theorem dX8_read_98 : decode cX8_read 98 = .ok (.iload_n 3, 1) := by decide +kernel
theorem dX8_read_99 : decode cX8_read 99 = .ok (.if_icmp .eq 27, 3) := by decide +kernel
theorem dX8_read_102 : decode cX8_read 102 = .ok (.aload_n 0, 1) := by decide +kernel
theorem dX8_read_103 : decode cX8_read 103 = .ok (.getfield 26, 3) := by decide +kernel
theorem dX8_read_106 : decode cX8_read 106 = .ok (.getfield 37, 3) := by decide +kernel
theorem dX8_read_109 : decode cX8_read 109 = .ok (.iload 4, 2) := by decide +kernel
theorem dX8_read_111 : decode cX8_read 111 = .ok (.baload, 1) := by decide +kernel
theorem dX8_read_112 : decode cX8_read 112 = .ok (.bipush 61, 2) := by decide +kernel
theorem dX8_read_114 : decode cX8_read 114 = .ok (.if_icmp .ne 12, 3) := by decide +kernel
theorem dX8_read_117 : decode cX8_read 117 = .ok (.aload_n 0, 1) := by decide +kernel
theorem dX8_read_118 : decode cX8_read 118 = .ok (.getfield 30, 3) := by decide +kernel
theorem dX8_read_121 : decode cX8_read 121 = .ok (.bipush 40, 2) := by decide +kernel
theorem dX8_read_123 : decode cX8_read 123 = .ok (.if_icmp .ne 5, 3) := by decide +kernel
theorem dX8_read_126 : decode cX8_read 126 = .ok (.iconst 0, 1) := by decide +kernel
theorem dX8_read_127 : decode cX8_read 127 = .ok (.ireturn, 1) := by decide +kernel
theorem dX8_read_128 : decode cX8_read 128 = .ok (.iconst 0, 1) := by decide +kernel
theorem dX8_read_129 : decode cX8_read 129 = .ok (.istore 5, 2) := by decide +kernel
theorem dX8_read_131 : decode cX8_read 131 = .ok (.iload 5, 2) := by decide +kernel
theorem dX8_read_133 : decode cX8_read 133 = .ok (.aload_n 0, 1) := by decide +kernel
theorem dX8_read_134 : decode cX8_read 134 = .ok (.getfield 30, 3) := by decide +kernel
theorem dX8_read_137 : decode cX8_read 137 = .ok (.if_icmp .ge 52, 3) := by decide +kernel
theorem dX8_read_140 : decode cX8_read 140 = .ok (.aload_n 0, 1) := by decide +kernel
theorem dX8_read_141 : decode cX8_read 141 = .ok (.getfield 15, 3) := by decide +kernel
theorem dX8_read_144 : decode cX8_read 144 = .ok (.iload 5, 2) := by decide +kernel
theorem dX8_read_146 : decode cX8_read 146 = .ok (.iaload, 1) := by decide +kernel
theorem dX8_read_147 : decode cX8_read 147 = .ok (.aload_n 0, 1) := by decide +kernel
theorem dX8_read_148 : decode cX8_read 148 = .ok (.getfield 9, 3) := by decide +kernel
theorem dX8_read_151 : decode cX8_read 151 = .ok (.iload 5, 2) := by decide +kernel
theorem dX8_read_153 : decode cX8_read 153 = .ok (.iaload, 1) := by decide +kernel
theorem dX8_read_154 : decode cX8_read 154 = .ok (.isub, 1) := by decide +kernel
theorem dX8_read_155 : decode cX8_read 155 = .ok (.iload 4, 2) := by decide +kernel
theorem dX8_read_157 : decode cX8_read 157 = .ok (.iload_n 2, 1) := by decide +kernel
theorem dX8_read_158 : decode cX8_read 158 = .ok (.isub, 1) := by decide +kernel
theorem dX8_read_159 : decode cX8_read 159 = .ok (.if_icmp .ne 24, 3) := by decide +kernel
theorem dX8_read_162 : decode cX8_read 162 = .ok (.aload_n 0, 1) := by decide +kernel
theorem dX8_read_163 : decode cX8_read 163 = .ok (.aload_n 0, 1) := by decide +kernel
theorem dX8_read_164 : decode cX8_read 164 = .ok (.getfield 9, 3) := by decide +kernel
theorem dX8_read_167 : decode cX8_read 167 = .ok (.iload 5, 2) := by decide +kernel
theorem dX8_read_169 : decode cX8_read 169 = .ok (.iaload, 1) := by decide +kernel
theorem dX8_read_170 : decode cX8_read 170 = .ok (.iload_n 2, 1) := by decide +kernel
theorem dX8_read_171 : decode cX8_read 171 = .ok (.iload 4, 2) := by decide +kernel
theorem dX8_read_173 : decode cX8_read 173 = .ok (.iload_n 2, 1) := by decide +kernel
theorem dX8_read_174 : decode cX8_read 174 = .ok (.isub, 1) := by decide +kernel
theorem dX8_read_175 : decode cX8_read 175 = .ok (.invokevirtual 49, 3) := by decide +kernel
theorem dX8_read_178 : decode cX8_read 178 = .ok (.ifCond .eq 5, 3) := by decide +kernel
theorem dX8_read_181 : decode cX8_read 181 = .ok (.iconst 0, 1) := by decide +kernel
theorem dX8_read_182 : decode cX8_read 182 = .ok (.ireturn, 1) := by decide +kernel
theorem dX8_read_183 : decode cX8_read 183 = .ok (.iinc 5 1, 3) := by decide +kernel
theorem dX8_read_186 : decode cX8_read 186 = .ok (.goto (-55), 3) := by decide +kernel
theorem dX8_read_189 : decode cX8_read 189 = .ok (.aload_n 0, 1) := by decide +kernel
theorem dX8_read_190 : decode cX8_read 190 = .ok (.getfield 9, 3) := by decide +kernel
theorem dX8_read_193 : decode cX8_read 193 = .ok (.aload_n 0, 1) := by decide +kernel
theorem dX8_read_194 : decode cX8_read 194 = .ok (.getfield 30, 3) := by decide +kernel
theorem dX8_read_197 : decode cX8_read 197 = .ok (.iload_n 2, 1) := by decide +kernel
theorem dX8_read_198 : decode cX8_read 198 = .ok (.iastore, 1) := by decide +kernel
theorem dX8_read_199 : decode cX8_read 199 = .ok (.aload_n 0, 1) := by decide +kernel
theorem dX8_read_200 : decode cX8_read 200 = .ok (.getfield 15, 3) := by decide +kernel
theorem dX8_read_203 : decode cX8_read 203 = .ok (.aload_n 0, 1) := by decide +kernel
theorem dX8_read_204 : decode cX8_read 204 = .ok (.getfield 30, 3) := by decide +kernel
theorem dX8_read_207 : decode cX8_read 207 = .ok (.iload 4, 2) := by decide +kernel
theorem dX8_read_209 : decode cX8_read 209 = .ok (.iastore, 1) := by decide +kernel
theorem dX8_read_210 : decode cX8_read 210 = .ok (.aload_n 0, 1) := by decide +kernel
theorem dX8_read_211 : decode cX8_read 211 = .ok (.getfield 18, 3) := by decide +kernel
theorem dX8_read_214 : decode cX8_read 214 = .ok (.aload_n 0, 1) := by decide +kernel
theorem dX8_read_215 : decode cX8_read 215 = .ok (.getfield 30, 3) := by decide +kernel
theorem dX8_read_218 : decode cX8_read 218 = .ok (.iload_n 3, 1) := by decide +kernel
theorem dX8_read_219 : decode cX8_read 219 = .ok (.iastore, 1) := by decide +kernel
theorem dX8_read_220 : decode cX8_read 220 = .ok (.aload_n 0, 1) := by decide +kernel
theorem dX8_read_221 : decode cX8_read 221 = .ok (.dup, 1) := by decide +kernel
theorem dX8_read_222 : decode cX8_read 222 = .ok (.getfield 30, 3) := by decide +kernel
theorem dX8_read_225 : decode cX8_read 225 = .ok (.iconst 1, 1) := by decide +kernel
theorem dX8_read_226 : decode cX8_read 226 = .ok (.iadd, 1) := by decide +kernel
theorem dX8_read_227 : decode cX8_read 227 = .ok (.putfield 30, 3) := by decide +kernel
theorem dX8_read_230 : decode cX8_read 230 = .ok (.iload_n 3, 1) := by decide +kernel
theorem dX8_read_231 : decode cX8_read 231 = .ok (.iconst 1, 1) := by decide +kernel
theorem dX8_read_232 : decode cX8_read 232 = .ok (.iadd, 1) := by decide +kernel
theorem dX8_read_233 : decode cX8_read 233 = .ok (.istore_n 2, 1) := by decide +kernel
theorem dX8_read_234 : decode cX8_read 234 = .ok (.goto (-227), 3) := by decide +kernel
theorem dX8_read_237 : decode cX8_read 237 = .ok (.iconst 1, 1) := by decide +kernel
theorem dX8_read_238 : decode cX8_read 238 = .ok (.ireturn, 1) := by decide +kernel
theorem hyX8_read : yX8_read.cls ≠ "java/lang/invoke/MethodHandle" ∧ yX8_read.cls ≠ "java/lang/invoke/VarHandle" ∧ (parseMethodDescriptor yX8_read.desc).map (fun d => d.parameters.length) = some 1 := by decide +kernel
abbrev J_X8_read_7 (E : gx_E) (v0 : Nat) (v1 : Int32) (v2 : Int32) (u : gx_S) : Prop := gx_Wc E 6 7 [(0, .ref (ex_ad E v0)), (1, .int v1), (2, .int v2)] [] u
abbrev J_X8_read_23 (E : gx_E) (v0 : Nat) (v1 : Int32) (v2 : Int32) (v3 : Int32) (v4 : Int32) (u : gx_S) : Prop := gx_Wc E 6 23 [(0, .ref (ex_ad E v0)), (1, .int v1), (2, .int v2), (3, .int v3), (4, .int v4)] [] u
abbrev J_X8_read_54 (E : gx_E) (v0 : Nat) (v1 : Int32) (v2 : Int32) (v3 : Int32) (v4 : Int32) (u : gx_S) : Prop := gx_Wc E 6 54 [(0, .ref (ex_ad E v0)), (1, .int v1), (2, .int v2), (3, .int v3), (4, .int v4)] [] u
abbrev J_X8_read_82 (E : gx_E) (v0 : Nat) (v1 : Int32) (v2 : Int32) (v3 : Int32) (v4 : Int32) (u : gx_S) : Prop := gx_Wc E 6 82 [(0, .ref (ex_ad E v0)), (1, .int v1), (2, .int v2), (3, .int v3), (4, .int v4)] [] u
abbrev J_X8_read_131 (E : gx_E) (v0 : Nat) (v1 : Int32) (v2 : Int32) (v3 : Int32) (v4 : Int32) (v5 : Int32) (u : gx_S) : Prop := gx_Wc E 6 131 [(0, .ref (ex_ad E v0)), (1, .int v1), (2, .int v2), (3, .int v3), (4, .int v4), (5, .int v5)] [] u
set_option maxHeartbeats 4000000 in
set_option maxRecDepth 100000 in
theorem w_X8_read_0 {E : gx_E} (X : gx_X E cX8_read 6 RX8 (some .boolean)) (hd : 1 ≤ ex_d E) {post : Int32 → gx_S → Prop} (hQ : ex_Q E = va_Qi post (gx_B (ex_Z E)) (gx_A (ex_Z E))) {u : gx_S} {v0 : Nat} {v1 : Int32} (h : (gx_isO v0 7 ∧ ∀ u2 : gx_S, u2 = gx_pi u v0 4 (0 : Int32) → J_X8_read_7 E v0 v1 (0 : Int32) u2)) : gx_Wc E 6 0 [(0, .ref (ex_ad E v0)), (1, .int v1)] [] u := by
  refine gx_aload_n X (j := 0) dX8_read_0 rfl rfl ?_
  refine gx_iconst X (v := 0) dX8_read_1 (by decide) ?_
  obtain ⟨k1, h⟩ := h
  refine gx_put X k1 rfl iwX8 tyX8_ok nmX8 4 (by decide) mw_465 rfl rfl rfl (fun _ => rfl) dX8_read_2 ?_
  refine gx_nams (fun u2 eu2 => ?_)
  replace h := h u2 eu2
  refine gx_iconst X (v := 0) dX8_read_5 (by decide) ?_
  refine gx_istore_n X (lv' := [(2, .int (0 : Int32)), (0, .ref (ex_ad E v0)), (1, .int v1)]) dX8_read_6 rfl (by decide) rfl ?_
  exact gx_sub [1, 2, 0] rfl h
set_option maxHeartbeats 4000000 in
set_option maxRecDepth 100000 in
theorem w_X8_read_7 {E : gx_E} (X : gx_X E cX8_read 6 RX8 (some .boolean)) (hd : 1 ≤ ex_d E) {post : Int32 → gx_S → Prop} (hQ : ex_Q E = va_Qi post (gx_B (ex_Z E)) (gx_A (ex_Z E))) {u : gx_S} {v0 : Nat} {v1 : Int32} {v2 : Int32} (h : (gx_isO v0 7 ∧ (gx_isO (gx_r u v0 0) 8 ∧ (((gx_i u (gx_r u v0 0) 1) ≤ v2 → post (1 : Int32) u) ∧ (¬ (gx_i u (gx_r u v0 0) 1) ≤ v2 → J_X8_read_23 E v0 v1 v2 v2 v2 u))))) : gx_Wc E 6 7 [(0, .ref (ex_ad E v0)), (1, .int v1), (2, .int v2)] [] u := by
  refine gx_iload_n X (j := 2) dX8_read_7 rfl rfl ?_
  refine gx_aload_n X (j := 0) dX8_read_8 rfl rfl ?_
  obtain ⟨k1, h⟩ := h
  refine gx_get X k1 rfl iwX8 0 (by decide) mw_458 (v := .ref (ex_ad E (gx_r u v0 0))) rfl dX8_read_9 ?_
  obtain ⟨k2, h⟩ := h
  refine gx_get X k2 rfl iwX9 1 (by decide) mw_443 (v := .int (gx_i u (gx_r u v0 0) 1)) rfl dX8_read_12 ?_
  refine gx_icmp_ge X (tgt := 237) dX8_read_15 (by decide) (fun c3 => ?_) (fun c3 => ?_)
  · replace h := h.1 c3
    refine gx_iconst X (v := 1) dX8_read_237 (by decide) ?_
    exact gx_zret X hQ rfl h dX8_read_238
  · replace h := h.2 c3
    refine gx_iload_n X (j := 2) dX8_read_18 rfl rfl ?_
    refine gx_istore_n X (lv' := [(3, .int v2), (0, .ref (ex_ad E v0)), (1, .int v1), (2, .int v2)]) dX8_read_19 rfl (by decide) rfl ?_
    refine gx_iload_n X (j := 3) dX8_read_20 rfl rfl ?_
    refine gx_istore X (lv' := [(4, .int v2), (3, .int v2), (0, .ref (ex_ad E v0)), (1, .int v1), (2, .int v2)]) dX8_read_21 (by decide) rfl ?_
    exact gx_sub [2, 3, 4, 1, 0] rfl h
set_option maxHeartbeats 4000000 in
set_option maxRecDepth 100000 in
theorem w_X8_read_23 {E : gx_E} (X : gx_X E cX8_read 6 RX8 (some .boolean)) (hd : 1 ≤ ex_d E) {post : Int32 → gx_S → Prop} (hQ : ex_Q E = va_Qi post (gx_B (ex_Z E)) (gx_A (ex_Z E))) {u : gx_S} {v0 : Nat} {v1 : Int32} {v2 : Int32} {v3 : Int32} {v4 : Int32} (h : (gx_isO v0 7 ∧ (gx_isO (gx_r u v0 0) 8 ∧ (((gx_i u (gx_r u v0 0) 1) ≤ v3 → J_X8_read_54 E v0 v1 v2 v3 v4 u) ∧ (¬ (gx_i u (gx_r u v0 0) 1) ≤ v3 → (gx_isR (gx_r u (gx_r u v0 0) 0) .byte ∧ vp_in v3 (gx_len (gx_r u (gx_r u v0 0) 0)) ∧ (((gx_a u (gx_r u (gx_r u v0 0) 0) v3.toNatClampNeg) = (59 : Int32) → J_X8_read_54 E v0 v1 v2 v3 v4 u) ∧ (¬ (gx_a u (gx_r u (gx_r u v0 0) 0) v3.toNatClampNeg) = (59 : Int32) → (∀ x5 : Int32, x5 = v3 + 1 → J_X8_read_23 E v0 v1 v2 x5 v4 u))))))))) : gx_Wc E 6 23 [(0, .ref (ex_ad E v0)), (1, .int v1), (2, .int v2), (3, .int v3), (4, .int v4)] [] u := by
  refine gx_iload_n X (j := 3) dX8_read_23 rfl rfl ?_
  refine gx_aload_n X (j := 0) dX8_read_24 rfl rfl ?_
  obtain ⟨k1, h⟩ := h
  refine gx_get X k1 rfl iwX8 0 (by decide) mw_458 (v := .ref (ex_ad E (gx_r u v0 0))) rfl dX8_read_25 ?_
  obtain ⟨k2, h⟩ := h
  refine gx_get X k2 rfl iwX9 1 (by decide) mw_443 (v := .int (gx_i u (gx_r u v0 0) 1)) rfl dX8_read_28 ?_
  refine gx_icmp_ge X (tgt := 54) dX8_read_31 (by decide) (fun c7 => ?_) (fun c7 => ?_)
  · replace h := h.1 c7
    exact gx_sub [0, 1, 2, 3, 4] rfl h
  · replace h := h.2 c7
    refine gx_aload_n X (j := 0) dX8_read_34 rfl rfl ?_
    refine gx_get X k1 rfl iwX8 0 (by decide) mw_458 (v := .ref (ex_ad E (gx_r u v0 0))) rfl dX8_read_35 ?_
    refine gx_get X k2 rfl iwX9 0 (by decide) mw_440 (v := .ref (ex_ad E (gx_r u (gx_r u v0 0) 0))) rfl dX8_read_38 ?_
    refine gx_iload_n X (j := 3) dX8_read_41 rfl rfl ?_
    obtain ⟨k3, h⟩ := h
    obtain ⟨k4, h⟩ := h
    refine gx_bald X k3 k4 dX8_read_42 ?_
    refine gx_bipush X (v := 59) dX8_read_43 (by decide) ?_
    refine gx_icmp_eq X (tgt := 54) dX8_read_45 (by decide) (fun c6 => ?_) (fun c6 => ?_)
    · replace h := h.1 c6
      exact gx_sub [0, 1, 2, 3, 4] rfl h
    · replace h := h.2 c6
      obtain ⟨x5, ex5⟩ : ∃ y : Int32, y = v3 + 1 := ⟨_, rfl⟩
      replace h := h x5 ex5
      refine gx_iinc X (v := x5) (lv' := [(3, .int x5), (0, .ref (ex_ad E v0)), (1, .int v1), (2, .int v2), (4, .int v4)]) dX8_read_48 (j := 3) rfl (by rw [ex5]; rfl) (by decide) rfl ?_
      refine gx_goto X (tgt := 23) dX8_read_51 (by decide) ?_
      exact gx_sub [1, 2, 3, 0, 4] rfl h
set_option maxHeartbeats 4000000 in
set_option maxRecDepth 100000 in
theorem w_X8_read_54 {E : gx_E} (X : gx_X E cX8_read 6 RX8 (some .boolean)) (hd : 1 ≤ ex_d E) {post : Int32 → gx_S → Prop} (hQ : ex_Q E = va_Qi post (gx_B (ex_Z E)) (gx_A (ex_Z E))) {u : gx_S} {v0 : Nat} {v1 : Int32} {v2 : Int32} {v3 : Int32} {v4 : Int32} (h : ((v3 ≤ v4 → J_X8_read_82 E v0 v1 v2 v3 v4 u) ∧ (¬ v3 ≤ v4 → (gx_isO v0 7 ∧ (gx_isO (gx_r u v0 0) 8 ∧ (gx_isR (gx_r u (gx_r u v0 0) 0) .byte ∧ vp_in v4 (gx_len (gx_r u (gx_r u v0 0) 0)) ∧ (S_X10_isSmall u (gx_a u (gx_r u (gx_r u v0 0) 0) v4.toNatClampNeg) (fun (r6 : Int32) (u5 : gx_S) => ((r6 = 0 → J_X8_read_82 E v0 v1 v2 v3 v4 u5) ∧ (¬ r6 = 0 → (∀ x7 : Int32, x7 = v4 + 1 → J_X8_read_54 E v0 v1 v2 v3 x7 u5))))))))))) : gx_Wc E 6 54 [(0, .ref (ex_ad E v0)), (1, .int v1), (2, .int v2), (3, .int v3), (4, .int v4)] [] u := by
  refine gx_iload X (j := 4) dX8_read_54 rfl ?_
  refine gx_iload_n X (j := 3) dX8_read_56 rfl rfl ?_
  refine gx_icmp_ge X (tgt := 82) dX8_read_57 (by decide) (fun c9 => ?_) (fun c9 => ?_)
  · replace h := h.1 c9
    exact gx_sub [0, 1, 2, 3, 4] rfl h
  · replace h := h.2 c9
    refine gx_aload_n X (j := 0) dX8_read_60 rfl rfl ?_
    obtain ⟨k1, h⟩ := h
    refine gx_get X k1 rfl iwX8 0 (by decide) mw_458 (v := .ref (ex_ad E (gx_r u v0 0))) rfl dX8_read_61 ?_
    obtain ⟨k2, h⟩ := h
    refine gx_get X k2 rfl iwX9 0 (by decide) mw_440 (v := .ref (ex_ad E (gx_r u (gx_r u v0 0) 0))) rfl dX8_read_64 ?_
    refine gx_iload X (j := 4) dX8_read_67 rfl ?_
    obtain ⟨k3, h⟩ := h
    obtain ⟨k4, h⟩ := h
    refine gx_bald X k3 k4 dX8_read_69 ?_
    refine gx_ki (gx_rSN X (c_X10_isSmall h) (Nat.le_trans (by decide) hd) (Nat.le_trans (by decide) (Nat.mul_le_mul_left 40 hd)) mn_10 mw_642 mw_7 mw_643 hyX10_isSmall (As := [.int (gx_a u (gx_r u (gx_r u v0 0) 0) v4.toNatClampNeg)]) (rest := []) rfl rfl (Nat.le_of_ble_eq_true rfl) dX8_read_70) (fun r6 u5 h => ?_)
    refine gx_if_eq X (tgt := 82) dX8_read_73 (by decide) (fun c8 => ?_) (fun c8 => ?_)
    · replace h := h.1 c8
      exact gx_sub [0, 1, 2, 3, 4] rfl h
    · replace h := h.2 c8
      obtain ⟨x7, ex7⟩ : ∃ y : Int32, y = v4 + 1 := ⟨_, rfl⟩
      replace h := h x7 ex7
      refine gx_iinc X (v := x7) (lv' := [(4, .int x7), (0, .ref (ex_ad E v0)), (1, .int v1), (2, .int v2), (3, .int v3)]) dX8_read_76 (j := 4) rfl (by rw [ex7]; rfl) (by decide) rfl ?_
      refine gx_goto X (tgt := 54) dX8_read_79 (by decide) ?_
      exact gx_sub [1, 2, 3, 4, 0] rfl h
set_option maxHeartbeats 4000000 in
set_option maxRecDepth 100000 in
theorem w_X8_read_82 {E : gx_E} (X : gx_X E cX8_read 6 RX8 (some .boolean)) (hd : 1 ≤ ex_d E) {post : Int32 → gx_S → Prop} (hQ : ex_Q E = va_Qi post (gx_B (ex_Z E)) (gx_A (ex_Z E))) {u : gx_S} {v0 : Nat} {v1 : Int32} {v2 : Int32} {v3 : Int32} {v4 : Int32} (h : (S_X10_in u ((v4 - v2)).toInt64 (1 : Int64) (v1).toInt64 (fun (r2 : Int32) (u1 : gx_S) => ((r2 = 0 → post (0 : Int32) u1) ∧ (¬ r2 = 0 → ((v4 = v3 → post (0 : Int32) u1) ∧ (¬ v4 = v3 → (gx_isO v0 7 ∧ (gx_isO (gx_r u1 v0 0) 8 ∧ (gx_isR (gx_r u1 (gx_r u1 v0 0) 0) .byte ∧ vp_in v4 (gx_len (gx_r u1 (gx_r u1 v0 0) 0)) ∧ ((¬ (gx_a u1 (gx_r u1 (gx_r u1 v0 0) 0) v4.toNatClampNeg) = (61 : Int32) → post (0 : Int32) u1) ∧ ((gx_a u1 (gx_r u1 (gx_r u1 v0 0) 0) v4.toNatClampNeg) = (61 : Int32) → ((¬ (gx_i u1 v0 4) = (40 : Int32) → J_X8_read_131 E v0 v1 v2 v3 v4 (0 : Int32) u1) ∧ ((gx_i u1 v0 4) = (40 : Int32) → post (0 : Int32) u1)))))))))))))) : gx_Wc E 6 82 [(0, .ref (ex_ad E v0)), (1, .int v1), (2, .int v2), (3, .int v3), (4, .int v4)] [] u := by
  refine gx_iload X (j := 4) dX8_read_82 rfl ?_
  refine gx_iload_n X (j := 2) dX8_read_84 rfl rfl ?_
  refine gx_isub X dX8_read_85 ?_
  refine gx_i2l X (v := ((v4 - v2)).toInt64) dX8_read_86 rfl ?_
  refine gx_lconst X (v := 1) dX8_read_87 (by decide) ?_
  refine gx_iload_n X (j := 1) dX8_read_88 rfl rfl ?_
  refine gx_i2l X (v := (v1).toInt64) dX8_read_89 rfl ?_
  refine gx_ki (gx_rSN X (c_X10_in h) (Nat.le_trans (by decide) hd) (Nat.le_trans (by decide) (Nat.mul_le_mul_left 40 hd)) mn_11 mw_619 mw_7 mw_620 hyX10_in (As := [.long ((v4 - v2)).toInt64, .long (1 : Int64), .long (v1).toInt64]) (rest := []) rfl rfl (Nat.le_of_ble_eq_true rfl) dX8_read_90) (fun r2 u1 h => ?_)
  refine gx_if_eq X (tgt := 126) dX8_read_93 (by decide) (fun c10 => ?_) (fun c10 => ?_)
  · replace h := h.1 c10
    refine gx_iconst X (v := 0) dX8_read_126 (by decide) ?_
    exact gx_zret X hQ rfl h dX8_read_127
  · replace h := h.2 c10
    refine gx_iload X (j := 4) dX8_read_96 rfl ?_
    refine gx_iload_n X (j := 3) dX8_read_98 rfl rfl ?_
    refine gx_icmp_eq X (tgt := 126) dX8_read_99 (by decide) (fun c9 => ?_) (fun c9 => ?_)
    · replace h := h.1 c9
      refine gx_iconst X (v := 0) dX8_read_126 (by decide) ?_
      exact gx_zret X hQ rfl h dX8_read_127
    · replace h := h.2 c9
      refine gx_aload_n X (j := 0) dX8_read_102 rfl rfl ?_
      obtain ⟨k3, h⟩ := h
      refine gx_get X k3 rfl iwX8 0 (by decide) mw_458 (v := .ref (ex_ad E (gx_r u1 v0 0))) rfl dX8_read_103 ?_
      obtain ⟨k4, h⟩ := h
      refine gx_get X k4 rfl iwX9 0 (by decide) mw_440 (v := .ref (ex_ad E (gx_r u1 (gx_r u1 v0 0) 0))) rfl dX8_read_106 ?_
      refine gx_iload X (j := 4) dX8_read_109 rfl ?_
      obtain ⟨k5, h⟩ := h
      obtain ⟨k6, h⟩ := h
      refine gx_bald X k5 k6 dX8_read_111 ?_
      refine gx_bipush X (v := 61) dX8_read_112 (by decide) ?_
      refine gx_icmp_ne X (tgt := 126) dX8_read_114 (by decide) (fun c8 => ?_) (fun c8 => ?_)
      · replace h := h.1 c8
        refine gx_iconst X (v := 0) dX8_read_126 (by decide) ?_
        exact gx_zret X hQ rfl h dX8_read_127
      · replace h := h.2 c8
        refine gx_aload_n X (j := 0) dX8_read_117 rfl rfl ?_
        refine gx_get X k3 rfl iwX8 4 (by decide) mw_465 (v := .int (gx_i u1 v0 4)) rfl dX8_read_118 ?_
        refine gx_bipush X (v := 40) dX8_read_121 (by decide) ?_
        refine gx_icmp_ne X (tgt := 128) dX8_read_123 (by decide) (fun c7 => ?_) (fun c7 => ?_)
        · replace h := h.1 c7
          refine gx_iconst X (v := 0) dX8_read_128 (by decide) ?_
          refine gx_istore X (lv' := [(5, .int (0 : Int32)), (0, .ref (ex_ad E v0)), (1, .int v1), (2, .int v2), (3, .int v3), (4, .int v4)]) dX8_read_129 (by decide) rfl ?_
          exact gx_sub [1, 2, 3, 4, 5, 0] rfl h
        · replace h := h.2 c7
          refine gx_iconst X (v := 0) dX8_read_126 (by decide) ?_
          exact gx_zret X hQ rfl h dX8_read_127
set_option maxHeartbeats 4000000 in
set_option maxRecDepth 100000 in
theorem w_X8_read_131 {E : gx_E} (X : gx_X E cX8_read 6 RX8 (some .boolean)) (hd : 1 ≤ ex_d E) {post : Int32 → gx_S → Prop} (hQ : ex_Q E = va_Qi post (gx_B (ex_Z E)) (gx_A (ex_Z E))) {u : gx_S} {v0 : Nat} {v1 : Int32} {v2 : Int32} {v3 : Int32} {v4 : Int32} {v5 : Int32} (h : (gx_isO v0 7 ∧ (((gx_i u v0 4) ≤ v5 → (gx_isA (gx_r u v0 1) .int ∧ vp_in (gx_i u v0 4) (gx_len (gx_r u v0 1)) ∧ ∀ u4 : gx_S, u4 = gx_pa u (gx_r u v0 1) (upd (gx_a u (gx_r u v0 1)) (gx_i u v0 4).toNatClampNeg v2) → (gx_isA (gx_r u4 v0 2) .int ∧ vp_in (gx_i u4 v0 4) (gx_len (gx_r u4 v0 2)) ∧ ∀ u7 : gx_S, u7 = gx_pa u4 (gx_r u4 v0 2) (upd (gx_a u4 (gx_r u4 v0 2)) (gx_i u4 v0 4).toNatClampNeg v4) → (gx_isA (gx_r u7 v0 3) .int ∧ vp_in (gx_i u7 v0 4) (gx_len (gx_r u7 v0 3)) ∧ ∀ u10 : gx_S, u10 = gx_pa u7 (gx_r u7 v0 3) (upd (gx_a u7 (gx_r u7 v0 3)) (gx_i u7 v0 4).toNatClampNeg v3) → (∀ u11 : gx_S, u11 = gx_pi u10 v0 4 ((gx_i u10 v0 4) + (1 : Int32)) → (∀ x12 : Int32, x12 = (v3 + (1 : Int32)) → J_X8_read_7 E v0 v1 x12 u11)))))) ∧ (¬ (gx_i u v0 4) ≤ v5 → (gx_isR (gx_r u v0 2) .int ∧ vp_in v5 (gx_len (gx_r u v0 2)) ∧ (gx_isR (gx_r u v0 1) .int ∧ vp_in v5 (gx_len (gx_r u v0 1)) ∧ ((¬ ((gx_a u (gx_r u v0 2) v5.toNatClampNeg) - (gx_a u (gx_r u v0 1) v5.toNatClampNeg)) = (v4 - v2) → (∀ x17 : Int32, x17 = v5 + 1 → J_X8_read_131 E v0 v1 v2 v3 v4 x17 u)) ∧ (((gx_a u (gx_r u v0 2) v5.toNatClampNeg) - (gx_a u (gx_r u v0 1) v5.toNatClampNeg)) = (v4 - v2) → (vp_in v5 (gx_len (gx_r u v0 1)) ∧ (S_X8_isSame u v0 (gx_a u (gx_r u v0 1) v5.toNatClampNeg) v2 (v4 - v2) (fun (r20 : Int32) (u19 : gx_S) => ((r20 = 0 → (∀ x21 : Int32, x21 = v5 + 1 → J_X8_read_131 E v0 v1 v2 v3 v4 x21 u19)) ∧ (¬ r20 = 0 → post (0 : Int32) u19))))))))))))) : gx_Wc E 6 131 [(0, .ref (ex_ad E v0)), (1, .int v1), (2, .int v2), (3, .int v3), (4, .int v4), (5, .int v5)] [] u := by
  refine gx_iload X (j := 5) dX8_read_131 rfl ?_
  refine gx_aload_n X (j := 0) dX8_read_133 rfl rfl ?_
  obtain ⟨k1, h⟩ := h
  refine gx_get X k1 rfl iwX8 4 (by decide) mw_465 (v := .int (gx_i u v0 4)) rfl dX8_read_134 ?_
  refine gx_icmp_ge X (tgt := 189) dX8_read_137 (by decide) (fun c24 => ?_) (fun c24 => ?_)
  · replace h := h.1 c24
    refine gx_aload_n X (j := 0) dX8_read_189 rfl rfl ?_
    refine gx_get X k1 rfl iwX8 1 (by decide) mw_460 (v := .ref (ex_ad E (gx_r u v0 1))) rfl dX8_read_190 ?_
    refine gx_aload_n X (j := 0) dX8_read_193 rfl rfl ?_
    refine gx_get X k1 rfl iwX8 4 (by decide) mw_465 (v := .int (gx_i u v0 4)) rfl dX8_read_194 ?_
    refine gx_iload_n X (j := 2) dX8_read_197 rfl rfl ?_
    obtain ⟨k2, h⟩ := h
    obtain ⟨k3, h⟩ := h
    refine gx_iast X k2 k3 dX8_read_198 ?_
    refine gx_nams (fun u4 eu4 => ?_)
    replace h := h u4 eu4
    refine gx_aload_n X (j := 0) dX8_read_199 rfl rfl ?_
    refine gx_get X k1 rfl iwX8 2 (by decide) mw_461 (v := .ref (ex_ad E (gx_r u4 v0 2))) rfl dX8_read_200 ?_
    refine gx_aload_n X (j := 0) dX8_read_203 rfl rfl ?_
    refine gx_get X k1 rfl iwX8 4 (by decide) mw_465 (v := .int (gx_i u4 v0 4)) rfl dX8_read_204 ?_
    refine gx_iload X (j := 4) dX8_read_207 rfl ?_
    obtain ⟨k5, h⟩ := h
    obtain ⟨k6, h⟩ := h
    refine gx_iast X k5 k6 dX8_read_209 ?_
    refine gx_nams (fun u7 eu7 => ?_)
    replace h := h u7 eu7
    refine gx_aload_n X (j := 0) dX8_read_210 rfl rfl ?_
    refine gx_get X k1 rfl iwX8 3 (by decide) mw_463 (v := .ref (ex_ad E (gx_r u7 v0 3))) rfl dX8_read_211 ?_
    refine gx_aload_n X (j := 0) dX8_read_214 rfl rfl ?_
    refine gx_get X k1 rfl iwX8 4 (by decide) mw_465 (v := .int (gx_i u7 v0 4)) rfl dX8_read_215 ?_
    refine gx_iload_n X (j := 3) dX8_read_218 rfl rfl ?_
    obtain ⟨k8, h⟩ := h
    obtain ⟨k9, h⟩ := h
    refine gx_iast X k8 k9 dX8_read_219 ?_
    refine gx_nams (fun u10 eu10 => ?_)
    replace h := h u10 eu10
    refine gx_aload_n X (j := 0) dX8_read_220 rfl rfl ?_
    refine gx_dup X dX8_read_221 rfl ?_
    refine gx_get X k1 rfl iwX8 4 (by decide) mw_465 (v := .int (gx_i u10 v0 4)) rfl dX8_read_222 ?_
    refine gx_iconst X (v := 1) dX8_read_225 (by decide) ?_
    refine gx_iadd X dX8_read_226 ?_
    refine gx_put X k1 rfl iwX8 tyX8_ok nmX8 4 (by decide) mw_465 rfl rfl rfl (fun _ => rfl) dX8_read_227 ?_
    refine gx_nams (fun u11 eu11 => ?_)
    replace h := h u11 eu11
    refine gx_iload_n X (j := 3) dX8_read_230 rfl rfl ?_
    refine gx_iconst X (v := 1) dX8_read_231 (by decide) ?_
    refine gx_iadd X dX8_read_232 ?_
    refine gx_nami (fun x12 ex12 => ?_)
    replace h := h x12 ex12
    refine gx_istore_n X (lv' := [(2, .int x12), (0, .ref (ex_ad E v0)), (1, .int v1), (3, .int v3), (4, .int v4), (5, .int v5)]) dX8_read_233 rfl (by decide) rfl ?_
    refine gx_goto X (tgt := 7) dX8_read_234 (by decide) ?_
    exact gx_sub [1, 2, 0] rfl h
  · replace h := h.2 c24
    refine gx_aload_n X (j := 0) dX8_read_140 rfl rfl ?_
    refine gx_get X k1 rfl iwX8 2 (by decide) mw_461 (v := .ref (ex_ad E (gx_r u v0 2))) rfl dX8_read_141 ?_
    refine gx_iload X (j := 5) dX8_read_144 rfl ?_
    obtain ⟨k13, h⟩ := h
    obtain ⟨k14, h⟩ := h
    refine gx_iald X k13 k14 dX8_read_146 ?_
    refine gx_aload_n X (j := 0) dX8_read_147 rfl rfl ?_
    refine gx_get X k1 rfl iwX8 1 (by decide) mw_460 (v := .ref (ex_ad E (gx_r u v0 1))) rfl dX8_read_148 ?_
    refine gx_iload X (j := 5) dX8_read_151 rfl ?_
    obtain ⟨k15, h⟩ := h
    obtain ⟨k16, h⟩ := h
    refine gx_iald X k15 k16 dX8_read_153 ?_
    refine gx_isub X dX8_read_154 ?_
    refine gx_iload X (j := 4) dX8_read_155 rfl ?_
    refine gx_iload_n X (j := 2) dX8_read_157 rfl rfl ?_
    refine gx_isub X dX8_read_158 ?_
    refine gx_icmp_ne X (tgt := 183) dX8_read_159 (by decide) (fun c23 => ?_) (fun c23 => ?_)
    · replace h := h.1 c23
      obtain ⟨x17, ex17⟩ : ∃ y : Int32, y = v5 + 1 := ⟨_, rfl⟩
      replace h := h x17 ex17
      refine gx_iinc X (v := x17) (lv' := [(5, .int x17), (0, .ref (ex_ad E v0)), (1, .int v1), (2, .int v2), (3, .int v3), (4, .int v4)]) dX8_read_183 (j := 5) rfl (by rw [ex17]; rfl) (by decide) rfl ?_
      refine gx_goto X (tgt := 131) dX8_read_186 (by decide) ?_
      exact gx_sub [1, 2, 3, 4, 5, 0] rfl h
    · replace h := h.2 c23
      refine gx_aload_n X (j := 0) dX8_read_162 rfl rfl ?_
      refine gx_aload_n X (j := 0) dX8_read_163 rfl rfl ?_
      refine gx_get X k1 rfl iwX8 1 (by decide) mw_460 (v := .ref (ex_ad E (gx_r u v0 1))) rfl dX8_read_164 ?_
      refine gx_iload X (j := 5) dX8_read_167 rfl ?_
      obtain ⟨k18, h⟩ := h
      refine gx_iald X k15 k18 dX8_read_169 ?_
      refine gx_iload_n X (j := 2) dX8_read_170 rfl rfl ?_
      refine gx_iload X (j := 4) dX8_read_171 rfl ?_
      refine gx_iload_n X (j := 2) dX8_read_173 rfl rfl ?_
      refine gx_isub X dX8_read_174 ?_
      refine gx_ki (gx_rV X (c_X8_isSame h) (Nat.le_trans (by decide) hd) (Nat.le_trans (by decide) (Nat.mul_le_mul_left 40 hd)) k1 rfl mw_694 mw_696 mp_17 mw_9 mw_697 hyX8_isSame (As := [.int (gx_a u (gx_r u v0 1) v5.toNatClampNeg), .int v2, .int (v4 - v2)]) (rest := []) rfl rfl (Nat.le_of_ble_eq_true rfl) dX8_read_175) (fun r20 u19 h => ?_)
      refine gx_if_eq X (tgt := 183) dX8_read_178 (by decide) (fun c22 => ?_) (fun c22 => ?_)
      · replace h := h.1 c22
        obtain ⟨x21, ex21⟩ : ∃ y : Int32, y = v5 + 1 := ⟨_, rfl⟩
        replace h := h x21 ex21
        refine gx_iinc X (v := x21) (lv' := [(5, .int x21), (0, .ref (ex_ad E v0)), (1, .int v1), (2, .int v2), (3, .int v3), (4, .int v4)]) dX8_read_183 (j := 5) rfl (by rw [ex21]; rfl) (by decide) rfl ?_
        refine gx_goto X (tgt := 131) dX8_read_186 (by decide) ?_
        exact gx_sub [1, 2, 3, 4, 5, 0] rfl h
      · replace h := h.2 c22
        refine gx_iconst X (v := 0) dX8_read_181 (by decide) ?_
        exact gx_zret X hQ rfl h dX8_read_182
def arT (u : gx_S) (d : Nat) (G : List Nat) (m : Nat) : Prop := ∀ i, i < m → gx_a u (tbx d + 1) i = nI (frp G i) ∧ gx_a u (tbx d + 2) i = nI (frp G i + lettLen G (frp G i)) ∧ gx_a u (tbx d + 3) i = nI (fnd G 59 (frp G i))
def exT (d : Nat) (u v : gx_S) : Prop := exG [tbx d + 1, tbx d + 2, tbx d + 3] [(d, 4)] u v
def S_X8_read (u : gx_S) (v0 : Nat) (v1 : Int32) (post : Int32 → gx_S → Prop) : Prop := v1 = 8 ∧ ∃ (t : Nat) (F G : List Nat), (v0 = 23 ∨ v0 = 25) ∧ mfix t u ∧ txt u (v0 + 1) (tbx v0) F ∧ F.length ≤ 2000 ∧ bG F G ∧ (ct G ≠ 0 → ∀ v, exT v0 u v → mg v v0 G → gx_i v v0 4 = nI (ct G) → post 1 v) ∧ (ct G = 0 → ∀ v, exT v0 u v → post 0 v) ∧ (ct G = 0 → ∀ v, exT v0 u v → gx_i v v0 4 = 0 → post 1 v)
theorem lp131 {E : gx_E} (X : gx_X E cX8_read 6 RX8 (some .boolean)) (hd : 1 ≤ ex_d E) {post : Int32 → gx_S → Prop} (hQ : ex_Q E = va_Qi post (gx_B (ex_Z E)) (gx_A (ex_Z E))) {u : gx_S} {t d m a K e : Nat} {G : List Nat} (h0 : d = 23 ∨ d = 25) (hf : mfix t u) (hG : rdb G (gx_a u (tbx d))) (hGl : G.length ≤ 2000) (hm : m < 40) (hi4 : gx_i u d 4 = nI m) (ha : arT u d G m) (hl : ∀ i, i < m → lettLen G (frp G i) ≠ 0) (hK : a ≤ K) (hK2 : K < G.length) (he : e ≤ 2000) (hll : lettLen G a = K - a) (hfe : fnd G 59 a = e) (ham : a = frp G m)
    (hdup : vfF G G a (K - a) m 0 ≠ none → post 0 u) (hno : vfF G G a (K - a) m 0 = none → ∀ v, exT d u v → gx_i v d 4 = nI (m + 1) → arT v d G (m + 1) → J_X8_read_7 E d 8 (nI (e + 1)) v) :
    ∀ n i, m - i = n → i ≤ m → vfF G G a (K - a) m 0 = vfF G G a (K - a) n i → J_X8_read_131 E d 8 (nI a) (nI e) (nI K) (nI i) u := by
  obtain ⟨r1, r2, r3, r4, r5⟩ := tg_r h0 hf
  obtain ⟨k1, k2, k3, k4, k5, k6, k7, k8, k9, k10⟩ := tg_k h0
  have kn : gx_r u d 1 ≠ gx_r u d 2 := by rw [r3, r4]; omega
  intro n
  induction n with
  | zero =>
    intro i hn hi hv
    refine w_X8_read_131 X hd hQ ⟨k1, fun _ => ?_, fun q => absurd (by rw [hi4]; exact nI_le (by omega) (by omega)) q⟩
    rw [r3, hi4, nI_clamp (by omega)]
    refine ⟨k4, inL k8 (by omega) (by omega), fun u4 e4 => ?_⟩
    have x4 : exT d u u4 := by rw [e4]; exact exG_pa _ _ (by simp)
    obtain ⟨_, _, _, r4', _⟩ := tg_r h0 (exG_mfix x4 hf)
    have i4 : gx_i u4 d 4 = nI m := by rw [e4, gx_i_pa]; exact hi4
    rw [r4', i4, nI_clamp (by omega)]
    refine ⟨k5, inL k9 (by omega) (by omega), fun u7 e7 => ?_⟩
    have x7 : exT d u u7 := exG_tr x4 (by rw [e7]; exact exG_pa _ _ (by simp))
    obtain ⟨_, _, _, _, r5'⟩ := tg_r h0 (exG_mfix x7 hf)
    have i7 : gx_i u7 d 4 = nI m := by rw [e7, gx_i_pa]; exact i4
    rw [r5', i7, nI_clamp (by omega)]
    refine ⟨k6, inL k10 (by omega) (by omega), fun u10 e10 u11 e11 x12 e12 => ?_⟩
    have x10 : exT d u u10 := exG_tr x7 (by rw [e10]; exact exG_pa _ _ (by simp))
    have i10 : gx_i u10 d 4 = nI m := by rw [e10, gx_i_pa]; exact i7
    have x11 : exT d u u11 := exG_tr x10 (by rw [e11]; exact exG_pi _ _ (by simp))
    have i11 : gx_i u11 d 4 = nI (m + 1) := by rw [e11, gx_i_pi, if_pos ⟨rfl, rfl⟩, i10, nI_1]
    have g1 : gx_a u11 (tbx d + 1) = upd (gx_a u (tbx d + 1)) m (nI a) := by
      rw [e11, gx_a_pi, e10, gx_a_pa, if_neg (by omega), e7, gx_a_pa, if_neg (by omega), e4, gx_a_pa, if_pos rfl]
    have g2 : gx_a u11 (tbx d + 2) = upd (gx_a u (tbx d + 2)) m (nI K) := by
      rw [e11, gx_a_pi, e10, gx_a_pa, if_neg (by omega), e7, gx_a_pa, if_pos rfl, e4, gx_a_pa, if_neg (by omega)]
    have g3 : gx_a u11 (tbx d + 3) = upd (gx_a u (tbx d + 3)) m (nI e) := by
      rw [e11, gx_a_pi, e10, gx_a_pa, if_pos rfl, e7, gx_a_pa, if_neg (by omega), e4, gx_a_pa, if_neg (by omega)]
    rw [e12, nI_1]
    refine hno hv u11 x11 i11 (fun j hj => ?_)
    rw [g1, g2, g3]
    by_cases ej : j = m
    · subst ej
      rw [pk_us, pk_us, pk_us, ← ham, hll, hfe, show a + (K - a) = K by omega]
      exact ⟨rfl, rfl, rfl⟩
    · rw [pk_un ej, pk_un ej, pk_un ej]
      exact ha j (by omega)
  | succ n ih =>
    intro i hn hi hv
    conv at hv => rhs; unfold vfF
    refine w_X8_read_131 X hd hQ ⟨k1, fun q => absurd q (by rw [hi4]; exact nI_ge (by omega) (by omega)), fun _ => ?_⟩
    obtain ⟨a1, a2, a3⟩ := ha i (by omega)
    obtain ⟨l1, l2, l3⟩ := ll_ok (hl i (by omega))
    have l8 := lettLen_le G (frp G i)
    rw [r3, r4, nI_clamp (by omega), a1, a2, nsub (a := frp G i + lettLen G (frp G i)) (b := frp G i) (by omega) (B := nI (frp G i)) rfl, Nat.add_sub_cancel_left, nsub (a := K) (b := a) hK (B := nI a) rfl, nI_eq (by omega) (by omega)]
    refine ⟨k5.r, inL k9 (by omega) (by omega), k4.r, inL k8 (by omega) (by omega), fun q => ?_, fun q => ⟨inL k8 (by omega) (by omega), ?_⟩⟩
    · rintro x rfl
      rw [nI_1]
      rw [if_neg (fun z => q z.1)] at hv
      exact ih (i + 1) (by omega) (by omega) hv
    · refine ⟨t, G, frp G i, a, K - a, h0, hf, hG, hGl, by omega, by omega, rfl, rfl, rfl, ?_⟩
      refine ⟨fun q2 => ?_, fun q2 => ?_⟩
      · rw [b2_0] at q2
        rintro x rfl
        rw [nI_1]
        rw [if_neg (fun z => by rw [q2] at z; cases z.2)] at hv
        exact ih (i + 1) (by omega) (by omega) hv
      · have q2 := b2_n0 q2
        rw [if_pos ⟨q, q2⟩] at hv
        exact hdup (by rw [hv]; simp)
theorem lp82 {E : gx_E} (X : gx_X E cX8_read 6 RX8 (some .boolean)) (hd : 1 ≤ ex_d E) {post : Int32 → gx_S → Prop} (hQ : ex_Q E = va_Qi post (gx_B (ex_Z E)) (gx_A (ex_Z E))) {u : gx_S} {t d a e : Nat} {v1 : Int32} {F : List Nat} (h0 : d = 23 ∨ d = 25) (hf : mfix t u) (hF : txt u (d + 1) (tbx d) F) (hFl : F.length ≤ 2000) (he : e ≤ F.length)
    (h : ∀ K, a ≤ K → K ≤ e → (∀ j, a ≤ j → j < K → isS (ch F j) = true) → (K = e ∨ isS (ch F K) = false) → J_X8_read_82 E d v1 (nI a) (nI e) (nI K) u) :
    ∀ n K, e - K = n → a ≤ K → K ≤ e → (∀ j, a ≤ j → j < K → isS (ch F j) = true) → J_X8_read_54 E d v1 (nI a) (nI e) (nI K) u := by
  obtain ⟨r1, r2, r3, r4, r5⟩ := tg_r h0 hf
  obtain ⟨k1, k2, k3, k4, k5, k6, k7, k8, k9, k10⟩ := tg_k h0
  intro n
  induction n with
  | zero =>
    intro K hn h1 h2 h3
    exact w_X8_read_54 X hd hQ ⟨fun _ => h K h1 h2 h3 (Or.inl (by omega)), fun q => absurd (nI_le (by omega) (by omega)) q⟩
  | succ n ih =>
    intro K hn h1 h2 h3
    have hc := ch_lt hF.2.1 (j := K) (by omega)
    refine w_X8_read_54 X hd hQ ⟨fun q => absurd q (nI_ge (by omega) (by omega)), fun _ => ⟨k1, ?_⟩⟩
    rw [r1, r2, nI_clamp (by omega), hF.2.2 K (by omega)]
    refine ⟨k2, k3.r, inL k7 (by omega) (by omega), i_X10_isSmall hc ⟨fun q => ?_, fun q => ?_⟩⟩
    · rw [b2_0] at q
      exact h K h1 h2 h3 (Or.inr q)
    · have q := b2_n0 q
      rintro x rfl
      rw [nI_1]
      refine ih (K + 1) (by omega) (by omega) (by omega) (fun j x y => ?_)
      by_cases ej : j = K
      · rw [ej]; exact q
      · exact h3 j x (by omega)
theorem lp23 {E : gx_E} (X : gx_X E cX8_read 6 RX8 (some .boolean)) (hd : 1 ≤ ex_d E) {post : Int32 → gx_S → Prop} (hQ : ex_Q E = va_Qi post (gx_B (ex_Z E)) (gx_A (ex_Z E))) {u : gx_S} {t d a : Nat} {v1 v4 : Int32} {F : List Nat} (h0 : d = 23 ∨ d = 25) (hf : mfix t u) (hF : txt u (d + 1) (tbx d) F) (hFl : F.length ≤ 2000)
    (h : ∀ e, a ≤ e → e ≤ F.length → (∀ j, a ≤ j → j < e → ch F j ≠ 59) → (e = F.length ∨ ch F e = 59) → J_X8_read_54 E d v1 (nI a) (nI e) v4 u) :
    ∀ n e, F.length - e = n → a ≤ e → e ≤ F.length → (∀ j, a ≤ j → j < e → ch F j ≠ 59) → J_X8_read_23 E d v1 (nI a) (nI e) v4 u := by
  obtain ⟨r1, r2, r3, r4, r5⟩ := tg_r h0 hf
  obtain ⟨k1, k2, k3, k4, k5, k6, k7, k8, k9, k10⟩ := tg_k h0
  intro n
  induction n with
  | zero =>
    intro e hn h1 h2 h3
    refine w_X8_read_23 X hd hQ ⟨k1, ?_⟩
    rw [r1, hF.1]
    exact ⟨k2, fun _ => h e h1 h2 h3 (Or.inl (by omega)), fun q => absurd (nI_le (by omega) (by omega)) q⟩
  | succ n ih =>
    intro e hn h1 h2 h3
    have hc := ch_lt hF.2.1 (j := e) (by omega)
    refine w_X8_read_23 X hd hQ ⟨k1, ?_⟩
    rw [r1, hF.1, r2, nI_clamp (by omega), hF.2.2 e (by omega), show (59 : Int32) = nI 59 from rfl, sb_eq hc (by omega)]
    refine ⟨k2, fun q => absurd q (nI_ge (by omega) (by omega)), fun _ => ⟨k3.r, inL k7 (by omega) (by omega), fun q => h e h1 h2 h3 (Or.inr q), fun q => ?_⟩⟩
    rintro x rfl
    rw [nI_1]
    refine ih (e + 1) (by omega) (by omega) (by omega) (fun j x y => ?_)
    by_cases ej : j = e
    · rw [ej]; exact q
    · exact h3 j x (by omega)
theorem tg_nm {d : Nat} (hd : d = 23 ∨ d = 25) : tbx d ∉ [tbx d + 1, tbx d + 2, tbx d + 3] ∧ ((d + 1, 1) : Nat × Nat) ∉ [(d, 4)] := by
  refine ⟨fun h => ?_, fun h => ?_⟩
  · simp at h
  · simp at h
theorem lpr7 {E : gx_E} (X : gx_X E cX8_read 6 RX8 (some .boolean)) (hd : 1 ≤ ex_d E) {post : Int32 → gx_S → Prop} (hQ : ex_Q E = va_Qi post (gx_B (ex_Z E)) (gx_A (ex_Z E))) {u0 : gx_S} {t d : Nat} {F G : List Nat} (h0 : d = 23 ∨ d = 25) (hf0 : mfix t u0) (hF0 : txt u0 (d + 1) (tbx d) F) (hFl : F.length ≤ 2000) (hb : bG F G)
    (p1 : ct G ≠ 0 → ∀ v, exT d u0 v → mg v d G → gx_i v d 4 = nI (ct G) → post 1 v) (p2 : ct G = 0 → ∀ v, exT d u0 v → post 0 v) (p3 : ct G = 0 → ∀ v, exT d u0 v → gx_i v d 4 = 0 → post 1 v) :
    ∀ n m a u, F.length - a ≤ n → exT d u0 u → gx_i u d 4 = nI m → arT u d G m → m ≤ 40 → a ≤ F.length + 1 → (F.length ≤ a → (m ≠ 0 ∧ m = ct G) ∨ (m = 0 ∧ ct G = 0)) → (a < F.length → a ≤ G.length ∧ a = frp G m ∧ ct G = ctF G (40 - m) (m + 1) a ∧ ∀ i, i < m → lettLen G (frp G i) ≠ 0 ∧ frp G i < G.length) → J_X8_read_7 E d 8 (nI a) u := by
  obtain ⟨k1, k2, k3, k4, k5, k6, k7, k8, k9, k10⟩ := tg_k h0
  obtain ⟨b1, b2', b3, b4⟩ := bG_ok hb
  obtain ⟨nm1, nm2⟩ := tg_nm h0
  intro n
  induction n with
  | zero =>
    intro m a u hn hx hi4 har hm ha hA hB
    have hF : txt u (d + 1) (tbx d) F := txt_ex hx nm1 nm2 hF0
    obtain ⟨r1, r2, r3, r4, r5⟩ := tg_r h0 (exG_mfix hx hf0)
    refine w_X8_read_7 X hd hQ ⟨k1, ?_⟩
    rw [r1, hF.1]
    refine ⟨k2, fun _ => ?_, fun q => absurd (nI_le (by omega) (by omega)) q⟩
    rcases hA (by omega) with ⟨q1, q2⟩ | ⟨q1, q2⟩
    · refine p1 (by omega) u hx ⟨m, hi4, hm, fun z => absurd z q1, fun _ => q2, by omega, bG_rdb hb hF.2, har⟩ (by rw [hi4, q2])
    · exact p3 q2 u hx (by rw [hi4, q1]; rfl)
  | succ n ih =>
    intro m a u hn hx hi4 har hm ha hA hB
    by_cases z : F.length ≤ a
    · exact ih m a u (by omega) hx hi4 har hm ha hA hB
    have hF : txt u (d + 1) (tbx d) F := txt_ex hx nm1 nm2 hF0
    have hf := exG_mfix hx hf0
    have hG := bG_rdb hb hF.2
    obtain ⟨r1, r2, r3, r4, r5⟩ := tg_r h0 hf
    obtain ⟨c1, c2, c3, c4⟩ := hB (by omega)
    refine w_X8_read_7 X hd hQ ⟨k1, ?_⟩
    rw [r1, hF.1]
    refine ⟨k2, fun q => absurd q (nI_ge (by omega) (by omega)), fun _ => ?_⟩
    refine lp23 X hd hQ h0 hf hF hFl (fun e e1 e2 e3 e4 => ?_) _ a rfl (Nat.le_refl _) (by omega) (fun j x y => by omega)
    have e5 : e ≤ G.length := by
      rcases b3 with b3 | ⟨b3, b5⟩
      · omega
      · by_cases w : e ≤ G.length
        · exact w
        · exact absurd b5 (e3 G.length c1 (by omega))
    have e6 : fnd G 59 a = e := by
      refine fnd_val e1 e5 (fun j x y => ?_) ?_
      · rw [← b2' j (by omega)]; exact e3 j x y
      · by_cases w : e = G.length
        · exact Or.inl w
        · right
          rw [← b2' e (by omega)]
          rcases e4 with e4 | e4
          · omega
          · exact e4
    refine lp82 X hd hQ h0 hf hF hFl e2 (fun K K1 K2 K3 K4 => ?_) _ a rfl (Nat.le_refl _) e1 (fun j x y => by omega)
    have K5 : isS (ch G K) = false := by
      by_cases w : K < G.length
      · rw [← b2' K w]
        rcases K4 with K4 | K4
        · rcases e4 with e4 | e4
          · omega
          · rw [K4, e4]; rfl
        · exact K4
      · rw [ch_ge (by omega)]; rfl
    have ll := lettLen_run K1 (fun j x y => by rw [← b2' j (by omega)]; exact K3 j x y) K5
    have no0 : lettLen G a = 0 → ct G = 0 := fun w => by
      rw [c3]
      cases hk : 40 - m with
      | zero => rfl
      | succ k => unfold ctF; rw [if_pos w]
    refine w_X8_read_82 X hd hQ ?_
    rw [nsub (a := K) (b := a) K1 (B := nI a) rfl, i2l_, i2l_, nI_toInt (by omega), show (1 : Int64) = lz 1 from rfl, show (8 : Int32).toInt = 8 from rfl]
    refine i_X10_in (by omega) (by omega) (by omega) ⟨fun q => ?_, fun q => ⟨fun q2 => ?_, fun q2 => ⟨k1, ?_⟩⟩⟩
    · rw [b2_0] at q
      have q : ¬ ((1 : Int) ≤ ((K - a : Nat) : Int) ∧ ((K - a : Nat) : Int) ≤ 8) := by simpa using q
      refine p2 (no0 ?_) u hx
      rw [ll]
      split <;> omega
    · have q2 : K = e := (nI_eq (by omega) (by omega)).mp q2
      refine p2 (no0 ?_) u hx
      rw [ll, if_neg]
      rintro ⟨_, w⟩
      by_cases w2 : K < G.length
      · rw [← b2' K w2, q2] at w
        rcases e4 with e4 | e4
        · omega
        · omega
      · rw [ch_ge (by omega)] at w; omega
    · have q := b2_n0 q
      have q : (1 : Int) ≤ ((K - a : Nat) : Int) ∧ ((K - a : Nat) : Int) ≤ 8 := by simpa using q
      have q2 : K ≠ e := fun w => q2 (by rw [w])
      have hcK := ch_lt hF.2.1 (j := K) (by omega)
      rw [r1, r2, nI_clamp (by omega), hF.2.2 K (by omega), show (61 : Int32) = nI 61 from rfl, sb_eq hcK (by omega), hi4]
      refine ⟨k2, k3.r, inL k7 (by omega) (by omega), fun q3 => ?_, fun q3 => ⟨fun q4 => ?_, fun q4 => ?_⟩⟩
      · refine p2 (no0 ?_) u hx
        rw [ll, if_neg (fun w => q3 ?_)]
        rw [b2' K (by omega)]; exact w.2
      · have hm2 : m ≠ 40 := fun w => q4 (by rw [w]; rfl)
        rw [if_pos ⟨by omega, by rw [← b2' K (by omega)]; exact q3⟩] at ll
        have hlt := fr_lt (fun i hi => (c4 i hi).2) c2
        have hvo : vo G a G a (K - a) = (vfF G G a (K - a) m 0).map (fun j => frp G j + (K - a) + 1) := vo_vf hlt (by omega) 40 m 0 (by omega) (by omega)
        have c5 := c3
        rw [show 40 - m = (40 - (m + 1)) + 1 by omega] at c5
        unfold ctF at c5
        rw [if_neg (by omega), ll, e6] at c5
        refine lp131 X hd hQ h0 hf hG (by omega) (by omega) hi4 har (fun i hi => (c4 i hi).1) K1 (by omega) (by omega) ll e6 c2 (fun w => ?_) (fun w v xv i4 av => ?_) m 0 (by omega) (by omega) rfl
        · refine p2 ?_ u hx
          rw [c5, if_neg]
          rw [hvo]
          intro w2
          exact w (by simpa using w2)
        · rw [hvo, w, Option.map_none, if_pos rfl] at c5
          have hln : ∀ i, i < m + 1 → lettLen G (frp G i) ≠ 0 ∧ frp G i < G.length := fun i hi => by
            by_cases ei : i = m
            · rw [ei, ← c2]; exact ⟨by omega, by omega⟩
            · exact c4 i (by omega)
          have fm : frp G (m + 1) = e + 1 := by
            show fnd G 59 (frp G m) + 1 = e + 1
            rw [← c2, e6]
          by_cases w2 : e < G.length
          · rw [if_pos w2] at c5
            refine ih (m + 1) (e + 1) v (by omega) (exG_tr hx xv) i4 av (by omega) (by omega) (fun w3 => ?_) (fun w3 => ⟨by omega, fm.symm, c5, hln⟩)
            exfalso
            rcases hb with ⟨hb1, hb2⟩ | hb
            · refine hb2 (by omega) ?_
              rw [show F.length - 1 = e by omega]
              rcases e4 with e4 | e4
              · rw [hb1] at e4; omega
              · exact e4
            · rw [hb] at w3; simp at w3; omega
          · rw [if_neg w2] at c5
            refine ih (m + 1) (e + 1) v (by omega) (exG_tr hx xv) i4 av (by omega) (by omega) (fun _ => Or.inl ⟨by omega, c5.symm⟩) (fun w3 => ?_)
            exfalso
            omega
      · have q4 : m = 40 := (nI_eq (b := 40) (by omega) (by omega)).mp q4
        refine p2 ?_ u hx
        rw [c3, q4]
        rfl
theorem w_X8_read {E : gx_E} (X : gx_X E cX8_read 6 RX8 (some .boolean)) (hd : 1 ≤ ex_d E) {post : Int32 → gx_S → Prop} (hQ : ex_Q E = va_Qi post (gx_B (ex_Z E)) (gx_A (ex_Z E))) {u : gx_S} {v0 : Nat} {v1 : Int32} (h : S_X8_read u v0 v1 post) : gx_Wc E 6 0 [(0, .ref (ex_ad E v0)), (1, .int v1)] [] u := by
  obtain ⟨rfl, t, F, G, h0, hf, hF, hFl, hb, p1, p2, p3⟩ := h
  obtain ⟨k1, k2, k3, k4, k5, k6, k7, k8, k9, k10⟩ := tg_k h0
  obtain ⟨b1, b2', b3, b4⟩ := bG_ok hb
  refine w_X8_read_0 X hd hQ ⟨k1, fun u2 e2 => ?_⟩
  have x2 : exT v0 u u2 := by rw [e2]; exact exG_pi _ _ (by simp)
  refine lpr7 X hd hQ (u0 := u) h0 hf hF hFl hb p1 p2 p3 _ 0 0 u2 (Nat.le_refl _) x2 (by rw [e2, gx_i_pi, if_pos ⟨rfl, rfl⟩]; rfl) (fun i hi => absurd hi (by omega)) (by omega) (by omega) (fun z => Or.inr ⟨rfl, ?_⟩) (fun z => ⟨by omega, rfl, rfl, fun i hi => absurd hi (by omega)⟩)
  have : F = [] := List.eq_nil_of_length_eq_zero (by omega)
  rw [b4 this]
  decide
theorem c_X8_read {l : Launch} {Z : gx_Z} {u : gx_S} {v0 : Nat} {v1 : Int32} {post : Int32 → gx_S → Prop} (h : S_X8_read u v0 v1 post) : Met l yX8_read (Cond.code yX8_read cX8_read 6 (some .boolean) :: gx_TB) (gx_rm 1) (gx_Pre Z u [.ref (Z.2.1 v0), .int v1]) (va_Qi post (gx_B Z) (gx_A Z)) 0 0 (gx_A Z) := by
  refine gx_met (by decide +kernel) (Nat.le_of_ble_eq_true rfl) ?_
  intro E X hZ hQ hD hL
  subst hZ
  exact w_X8_read X (Nat.le_of_eq hD.symm) hQ h

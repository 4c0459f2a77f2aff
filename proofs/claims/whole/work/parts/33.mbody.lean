-- PlainSealModel.bodyPlain(Z)V
theorem dX10_bodyPlain_0 : decode cX10_bodyPlain 0 = .ok (.aload_n 0, 1) := by decide +kernel
theorem dX10_bodyPlain_1 : decode cX10_bodyPlain 1 = .ok (.getfield 47, 3) := by decide +kernel
theorem dX10_bodyPlain_4 : decode cX10_bodyPlain 4 = .ok (.iconst 0, 1) := by decide +kernel
theorem dX10_bodyPlain_5 : decode cX10_bodyPlain 5 = .ok (.putfield 150, 3) := by decide +kernel
theorem dX10_bodyPlain_8 : decode cX10_bodyPlain 8 = .ok (.iconst 0, 1) := by decide +kernel
theorem dX10_bodyPlain_9 : decode cX10_bodyPlain 9 = .ok (.istore_n 2, 1) := by decide +kernel
theorem dX10_bodyPlain_10 : decode cX10_bodyPlain 10 = .ok (.aload_n 0, 1) := by decide +kernel
theorem dX10_bodyPlain_11 : decode cX10_bodyPlain 11 = .ok (.getfield 140, 3) := by decide +kernel
theorem dX10_bodyPlain_14 : decode cX10_bodyPlain 14 = .ok (.istore_n 3, 1) := by decide +kernel
theorem dX10_bodyPlain_15 : decode cX10_bodyPlain 15 = .ok (.iload_n 3, 1) := by decide +kernel
theorem dX10_bodyPlain_16 : decode cX10_bodyPlain 16 = .ok (.aload_n 0, 1) := by decide +kernel
theorem dX10_bodyPlain_17 : decode cX10_bodyPlain 17 = .ok (.getfield 143, 3) := by decide +kernel
theorem dX10_bodyPlain_20 : decode cX10_bodyPlain 20 = .ok (.if_icmp .ge 198, 3) := by decide +kernel
theorem dX10_bodyPlain_23 : decode cX10_bodyPlain 23 = .ok (.aload_n 0, 1) := by decide +kernel
theorem dX10_bodyPlain_24 : decode cX10_bodyPlain 24 = .ok (.getfield 20, 3) := by decide +kernel
theorem dX10_bodyPlain_27 : decode cX10_bodyPlain 27 = .ok (.iload_n 3, 1) := by decide +kernel
theorem dX10_bodyPlain_28 : decode cX10_bodyPlain 28 = .ok (.aload_n 0, 1) := by decide +kernel
theorem dX10_bodyPlain_29 : decode cX10_bodyPlain 29 = .ok (.getfield 143, 3) := by decide +kernel
theorem dX10_bodyPlain_32 : decode cX10_bodyPlain 32 = .ok (.invokestatic 116, 3) := by decide +kernel
theorem dX10_bodyPlain_35 : decode cX10_bodyPlain 35 = .ok (.istore 4, 2) := by decide +kernel
theorem dX10_bodyPlain_37 : decode cX10_bodyPlain 37 = .ok (.aload_n 0, 1) := by decide +kernel
theorem dX10_bodyPlain_38 : decode cX10_bodyPlain 38 = .ok (.getfield 20, 3) := by decide +kernel
theorem dX10_bodyPlain_41 : decode cX10_bodyPlain 41 = .ok (.iload 4, 2) := by decide +kernel
theorem dX10_bodyPlain_43 : decode cX10_bodyPlain 43 = .ok (.iconst 1, 1) := by decide +kernel
theorem dX10_bodyPlain_44 : decode cX10_bodyPlain 44 = .ok (.isub, 1) := by decide +kernel
theorem dX10_bodyPlain_45 : decode cX10_bodyPlain 45 = .ok (.baload, 1) := by decide +kernel
theorem dX10_bodyPlain_46 : decode cX10_bodyPlain 46 = .ok (.bipush 10, 2) := by decide +kernel
theorem dX10_bodyPlain_48 : decode cX10_bodyPlain 48 = .ok (.if_icmp .ne 10, 3) := by decide +kernel
theorem dX10_bodyPlain_51 : decode cX10_bodyPlain 51 = .ok (.iload 4, 2) := by decide +kernel
theorem dX10_bodyPlain_53 : decode cX10_bodyPlain 53 = .ok (.iconst 1, 1) := by decide +kernel
theorem dX10_bodyPlain_54 : decode cX10_bodyPlain 54 = .ok (.isub, 1) := by decide +kernel
theorem dX10_bodyPlain_55 : decode cX10_bodyPlain 55 = .ok (.goto 5, 3) := by decide +kernel
theorem dX10_bodyPlain_58 : decode cX10_bodyPlain 58 = .ok (.iload 4, 2) := by decide +kernel
theorem dX10_bodyPlain_60 : decode cX10_bodyPlain 60 = .ok (.istore 5, 2) := by decide +kernel
theorem dX10_bodyPlain_62 : decode cX10_bodyPlain 62 = .ok (.iload_n 1, 1) := by decide +kernel
theorem dX10_bodyPlain_63 : decode cX10_bodyPlain 63 = .ok (.ifCond .eq 30, 3) := by decide +kernel
theorem dX10_bodyPlain_66 : decode cX10_bodyPlain 66 = .ok (.iload 5, 2) := by decide +kernel
theorem dX10_bodyPlain_68 : decode cX10_bodyPlain 68 = .ok (.iload_n 3, 1) := by decide +kernel
theorem dX10_bodyPlain_69 : decode cX10_bodyPlain 69 = .ok (.if_icmp .le 24, 3) := by decide +kernel
theorem dX10_bodyPlain_72 : decode cX10_bodyPlain 72 = .ok (.aload_n 0, 1) := by decide +kernel
theorem dX10_bodyPlain_73 : decode cX10_bodyPlain 73 = .ok (.getfield 20, 3) := by decide +kernel
theorem dX10_bodyPlain_76 : decode cX10_bodyPlain 76 = .ok (.iload 5, 2) := by decide +kernel
theorem dX10_bodyPlain_78 : decode cX10_bodyPlain 78 = .ok (.iconst 1, 1) := by decide +kernel
theorem dX10_bodyPlain_79 : decode cX10_bodyPlain 79 = .ok (.isub, 1) := by decide +kernel
theorem dX10_bodyPlain_80 : decode cX10_bodyPlain 80 = .ok (.baload, 1) := by decide +kernel
theorem dX10_bodyPlain_81 : decode cX10_bodyPlain 81 = .ok (.invokestatic 120, 3) := by decide +kernel
theorem dX10_bodyPlain_84 : decode cX10_bodyPlain 84 = .ok (.ifCond .eq 9, 3) := by decide +kernel
theorem dX10_bodyPlain_87 : decode cX10_bodyPlain 87 = .ok (.iinc 5 (-1), 3) := by decide +kernel
theorem dX10_bodyPlain_90 : decode cX10_bodyPlain 90 = .ok (.goto (-24), 3) := by decide +kernel
theorem dX10_bodyPlain_93 : decode cX10_bodyPlain 93 = .ok (.iload 5, 2) := by decide +kernel
theorem dX10_bodyPlain_95 : decode cX10_bodyPlain 95 = .ok (.iload_n 3, 1) := by decide +kernel
theorem dX10_bodyPlain_96 : decode cX10_bodyPlain 96 = .ok (.if_icmp .le 7, 3) := by decide +kernel
theorem dX10_bodyPlain_99 : decode cX10_bodyPlain 99 = .ok (.iconst 1, 1) := by decide +kernel
theorem dX10_bodyPlain_100 : decode cX10_bodyPlain 100 = .ok (.goto 4, 3) := by decide +kernel
theorem dX10_bodyPlain_103 : decode cX10_bodyPlain 103 = .ok (.iconst 0, 1) := by decide +kernel
theorem dX10_bodyPlain_104 : decode cX10_bodyPlain 104 = .ok (.istore 6, 2) := by decide +kernel
theorem dX10_bodyPlain_106 : decode cX10_bodyPlain 106 = .ok (.iload_n 3, 1) := by decide +kernel
theorem dX10_bodyPlain_107 : decode cX10_bodyPlain 107 = .ok (.istore 7, 2) := by decide +kernel
theorem dX10_bodyPlain_109 : decode cX10_bodyPlain 109 = .ok (.iload 7, 2) := by decide +kernel
theorem dX10_bodyPlain_111 : decode cX10_bodyPlain 111 = .ok (.iload 5, 2) := by decide +kernel
theorem dX10_bodyPlain_113 : decode cX10_bodyPlain 113 = .ok (.if_icmp .ge 77, 3) := by decide +kernel
theorem dX10_bodyPlain_116 : decode cX10_bodyPlain 116 = .ok (.aload_n 0, 1) := by decide +kernel
theorem dX10_bodyPlain_117 : decode cX10_bodyPlain 117 = .ok (.getfield 20, 3) := by decide +kernel
theorem dX10_bodyPlain_120 : decode cX10_bodyPlain 120 = .ok (.iload 7, 2) := by decide +kernel
theorem dX10_bodyPlain_122 : decode cX10_bodyPlain 122 = .ok (.baload, 1) := by decide +kernel
theorem dX10_bodyPlain_123 : decode cX10_bodyPlain 123 = .ok (.invokestatic 120, 3) := by decide +kernel
theorem dX10_bodyPlain_126 : decode cX10_bodyPlain 126 = .ok (.istore 8, 2) := by decide +kernel
theorem dX10_bodyPlain_128 : decode cX10_bodyPlain 128 = .ok (.iload_n 1, 1) := by decide +kernel
theorem dX10_bodyPlain_129 : decode cX10_bodyPlain 129 = .ok (.ifCond .eq 8, 3) := by decide +kernel
theorem dX10_bodyPlain_132 : decode cX10_bodyPlain 132 = .ok (.iload 8, 2) := by decide +kernel
theorem dX10_bodyPlain_134 : decode cX10_bodyPlain 134 = .ok (.ifCond .ne 20, 3) := by decide +kernel
theorem dX10_bodyPlain_137 : decode cX10_bodyPlain 137 = .ok (.aload_n 0, 1) := by decide +kernel
theorem dX10_bodyPlain_138 : decode cX10_bodyPlain 138 = .ok (.getfield 47, 3) := by decide +kernel
theorem dX10_bodyPlain_141 : decode cX10_bodyPlain 141 = .ok (.aload_n 0, 1) := by decide +kernel
theorem dX10_bodyPlain_142 : decode cX10_bodyPlain 142 = .ok (.getfield 20, 3) := by decide +kernel
theorem dX10_bodyPlain_145 : decode cX10_bodyPlain 145 = .ok (.iload 7, 2) := by decide +kernel
theorem dX10_bodyPlain_147 : decode cX10_bodyPlain 147 = .ok (.baload, 1) := by decide +kernel
theorem dX10_bodyPlain_148 : decode cX10_bodyPlain 148 = .ok (.invokevirtual 153, 3) := by decide +kernel
theorem dX10_bodyPlain_151 : decode cX10_bodyPlain 151 = .ok (.goto 33, 3) := by decide +kernel
theorem dX10_bodyPlain_154 : decode cX10_bodyPlain 154 = .ok (.aload_n 0, 1) := by decide +kernel
theorem dX10_bodyPlain_155 : decode cX10_bodyPlain 155 = .ok (.getfield 20, 3) := by decide +kernel
theorem dX10_bodyPlain_158 : decode cX10_bodyPlain 158 = .ok (.iload 7, 2) := by decide +kernel
theorem dX10_bodyPlain_160 : decode cX10_bodyPlain 160 = .ok (.iconst 1, 1) := by decide +kernel
theorem dX10_bodyPlain_161 : decode cX10_bodyPlain 161 = .ok (.isub, 1) := by decide +kernel
theorem dX10_bodyPlain_162 : decode cX10_bodyPlain 162 = .ok (.baload, 1) := by decide +kernel
theorem dX10_bodyPlain_163 : decode cX10_bodyPlain 163 = .ok (.invokestatic 120, 3) := by decide +kernel
theorem dX10_bodyPlain_166 : decode cX10_bodyPlain 166 = .ok (.ifCond .eq 9, 3) := by decide +kernel
theorem dX10_bodyPlain_169 : decode cX10_bodyPlain 169 = .ok (.iload 7, 2) := by decide +kernel
theorem dX10_bodyPlain_171 : decode cX10_bodyPlain 171 = .ok (.iload_n 3, 1) := by decide +kernel
theorem dX10_bodyPlain_172 : decode cX10_bodyPlain 172 = .ok (.if_icmp .ne 12, 3) := by decide +kernel
theorem dX10_bodyPlain_175 : decode cX10_bodyPlain 175 = .ok (.aload_n 0, 1) := by decide +kernel
theorem dX10_bodyPlain_176 : decode cX10_bodyPlain 176 = .ok (.getfield 47, 3) := by decide +kernel
theorem dX10_bodyPlain_179 : decode cX10_bodyPlain 179 = .ok (.bipush 32, 2) := by decide +kernel
theorem dX10_bodyPlain_181 : decode cX10_bodyPlain 181 = .ok (.invokevirtual 153, 3) := by decide +kernel
theorem dX10_bodyPlain_184 : decode cX10_bodyPlain 184 = .ok (.iinc 7 1, 3) := by decide +kernel
theorem dX10_bodyPlain_187 : decode cX10_bodyPlain 187 = .ok (.goto (-78), 3) := by decide +kernel
theorem dX10_bodyPlain_190 : decode cX10_bodyPlain 190 = .ok (.aload_n 0, 1) := by decide +kernel
theorem dX10_bodyPlain_191 : decode cX10_bodyPlain 191 = .ok (.getfield 47, 3) := by decide +kernel
theorem dX10_bodyPlain_194 : decode cX10_bodyPlain 194 = .ok (.bipush 10, 2) := by decide +kernel
theorem dX10_bodyPlain_196 : decode cX10_bodyPlain 196 = .ok (.invokevirtual 153, 3) := by decide +kernel
theorem dX10_bodyPlain_199 : decode cX10_bodyPlain 199 = .ok (.iload 6, 2) := by decide +kernel
theorem dX10_bodyPlain_201 : decode cX10_bodyPlain 201 = .ok (.ifCond .eq 11, 3) := by decide +kernel
theorem dX10_bodyPlain_204 : decode cX10_bodyPlain 204 = .ok (.aload_n 0, 1) := by decide +kernel
theorem dX10_bodyPlain_205 : decode cX10_bodyPlain 205 = .ok (.getfield 47, 3) := by decide +kernel
theorem dX10_bodyPlain_208 : decode cX10_bodyPlain 208 = .ok (.getfield 150, 3) := by decide +kernel
theorem dX10_bodyPlain_211 : decode cX10_bodyPlain 211 = .ok (.istore_n 2, 1) := by decide +kernel
theorem dX10_bodyPlain_212 : decode cX10_bodyPlain 212 = .ok (.iload 4, 2) := by decide +kernel
theorem dX10_bodyPlain_214 : decode cX10_bodyPlain 214 = .ok (.istore_n 3, 1) := by decide +kernel
theorem dX10_bodyPlain_215 : decode cX10_bodyPlain 215 = .ok (.goto (-200), 3) := by decide +kernel
theorem dX10_bodyPlain_218 : decode cX10_bodyPlain 218 = .ok (.aload_n 0, 1) := by decide +kernel
theorem dX10_bodyPlain_219 : decode cX10_bodyPlain 219 = .ok (.getfield 47, 3) := by decide +kernel
theorem dX10_bodyPlain_222 : decode cX10_bodyPlain 222 = .ok (.iload_n 2, 1) := by decide +kernel
theorem dX10_bodyPlain_223 : decode cX10_bodyPlain 223 = .ok (.putfield 150, 3) := by decide +kernel
theorem dX10_bodyPlain_226 : decode cX10_bodyPlain 226 = .ok (.iload_n 2, 1) := by decide +kernel
theorem dX10_bodyPlain_227 : decode cX10_bodyPlain 227 = .ok (.ifCond .ne 16, 3) := by decide +kernel
theorem dX10_bodyPlain_230 : decode cX10_bodyPlain 230 = .ok (.iload_n 1, 1) := by decide +kernel
theorem dX10_bodyPlain_231 : decode cX10_bodyPlain 231 = .ok (.ifCond .ne 12, 3) := by decide +kernel
theorem dX10_bodyPlain_234 : decode cX10_bodyPlain 234 = .ok (.aload_n 0, 1) := by decide +kernel
theorem dX10_bodyPlain_235 : decode cX10_bodyPlain 235 = .ok (.getfield 47, 3) := by decide +kernel
theorem dX10_bodyPlain_238 : decode cX10_bodyPlain 238 = .ok (.bipush 10, 2) := by decide +kernel
theorem dX10_bodyPlain_240 : decode cX10_bodyPlain 240 = .ok (.invokevirtual 153, 3) := by decide +kernel
theorem dX10_bodyPlain_243 : decode cX10_bodyPlain 243 = .ok (.return_, 1) := by decide +kernel
theorem hyX10_bodyPlain : yX10_bodyPlain.cls ≠ "java/lang/invoke/MethodHandle" ∧ yX10_bodyPlain.cls ≠ "java/lang/invoke/VarHandle" ∧ (parseMethodDescriptor yX10_bodyPlain.desc).map (fun d => d.parameters.length) = some 1 := by decide +kernel
abbrev J_X10_bodyPlain_15 (E : gx_E) (v0 : Nat) (v1 : Int32) (v2 : Int32) (v3 : Int32) (u : gx_S) : Prop := gx_Wc E 9 15 [(0, .ref (ex_ad E v0)), (1, .int v1), (2, .int v2), (3, .int v3)] [] u
abbrev J_X10_bodyPlain_66 (E : gx_E) (v0 : Nat) (v1 : Int32) (v2 : Int32) (v3 : Int32) (v4 : Int32) (v5 : Int32) (u : gx_S) : Prop := gx_Wc E 9 66 [(0, .ref (ex_ad E v0)), (1, .int v1), (2, .int v2), (3, .int v3), (4, .int v4), (5, .int v5)] [] u
abbrev J_X10_bodyPlain_109 (E : gx_E) (v0 : Nat) (v1 : Int32) (v2 : Int32) (v3 : Int32) (v4 : Int32) (v5 : Int32) (v6 : Int32) (v7 : Int32) (u : gx_S) : Prop := gx_Wc E 9 109 [(0, .ref (ex_ad E v0)), (1, .int v1), (2, .int v2), (3, .int v3), (4, .int v4), (5, .int v5), (6, .int v6), (7, .int v7)] [] u
set_option maxHeartbeats 4000000 in
set_option maxRecDepth 100000 in
theorem w_X10_bodyPlain_0 {E : gx_E} (X : gx_X E cX10_bodyPlain 9 RX10 none) (hd : 2 ≤ ex_d E) {post : gx_S → Prop} (hQ : ex_Q E = va_Qv post (gx_B (ex_Z E)) (gx_A (ex_Z E))) {u : gx_S} {v0 : Nat} {v1 : Int32} (h : (gx_isO v0 9 ∧ (gx_isO (gx_r u v0 15) 8 ∧ ∀ u3 : gx_S, u3 = gx_pi u (gx_r u v0 15) 1 (0 : Int32) → (∀ x4 : Int32, x4 = (gx_i u3 v0 12) → J_X10_bodyPlain_15 E v0 v1 (0 : Int32) x4 u3)))) : gx_Wc E 9 0 [(0, .ref (ex_ad E v0)), (1, .int v1)] [] u := by
  refine gx_aload_n X (j := 0) dX10_bodyPlain_0 rfl rfl ?_
  obtain ⟨k1, h⟩ := h
  refine gx_get X k1 rfl iwX10 15 (by decide) mw_536 (v := .ref (ex_ad E (gx_r u v0 15))) rfl dX10_bodyPlain_1 ?_
  refine gx_iconst X (v := 0) dX10_bodyPlain_4 (by decide) ?_
  obtain ⟨k2, h⟩ := h
  refine gx_put X k2 rfl iwX9 tyX9_ok nmX9 1 (by decide) mw_444 rfl rfl rfl (fun _ => rfl) dX10_bodyPlain_5 ?_
  refine gx_nams (fun u3 eu3 => ?_)
  replace h := h u3 eu3
  refine gx_iconst X (v := 0) dX10_bodyPlain_8 (by decide) ?_
  refine gx_istore_n X (lv' := [(2, .int (0 : Int32)), (0, .ref (ex_ad E v0)), (1, .int v1)]) dX10_bodyPlain_9 rfl (by decide) rfl ?_
  refine gx_aload_n X (j := 1) dX10_bodyPlain_10 rfl rfl ?_
  refine gx_get X k1 rfl iwX10 12 (by decide) mw_533 (v := .int (gx_i u3 v0 12)) rfl dX10_bodyPlain_11 ?_
  refine gx_nami (fun x4 ex4 => ?_)
  replace h := h x4 ex4
  refine gx_istore_n X (lv' := [(3, .int x4), (2, .int (0 : Int32)), (0, .ref (ex_ad E v0)), (1, .int v1)]) dX10_bodyPlain_14 rfl (by decide) rfl ?_
  exact gx_sub [2, 3, 1, 0] rfl h
set_option maxHeartbeats 4000000 in
set_option maxRecDepth 100000 in
theorem w_X10_bodyPlain_15 {E : gx_E} (X : gx_X E cX10_bodyPlain 9 RX10 none) (hd : 2 ≤ ex_d E) {post : gx_S → Prop} (hQ : ex_Q E = va_Qv post (gx_B (ex_Z E)) (gx_A (ex_Z E))) {u : gx_S} {v0 : Nat} {v1 : Int32} {v2 : Int32} {v3 : Int32} (h : (gx_isO v0 9 ∧ (((gx_i u v0 13) ≤ v3 → (gx_isO (gx_r u v0 15) 8 ∧ ∀ u3 : gx_S, u3 = gx_pi u (gx_r u v0 15) 1 v2 → ((¬ v2 = 0 → post u3) ∧ (v2 = 0 → ((¬ v1 = 0 → post u3) ∧ (v1 = 0 → (gx_isO (gx_r u3 v0 15) 8 ∧ S_X9_add u3 (gx_r u3 v0 15) (10 : Int32) (fun (u5 : gx_S) => post u5)))))))) ∧ (¬ (gx_i u v0 13) ≤ v3 → (S_X10_lineEnd u (gx_r u v0 4) v3 (gx_i u v0 13) (fun (r9 : Int32) (u8 : gx_S) => (gx_isR (gx_r u8 v0 4) .byte ∧ vp_in (r9 - (1 : Int32)) (gx_len (gx_r u8 v0 4)) ∧ ((¬ (gx_a u8 (gx_r u8 v0 4) (r9 - (1 : Int32)).toNatClampNeg) = (10 : Int32) → ((v1 = 0 → ((r9 ≤ v3 → J_X10_bodyPlain_109 E v0 v1 v2 v3 r9 r9 (0 : Int32) v3 u8) ∧ (¬ r9 ≤ v3 → J_X10_bodyPlain_109 E v0 v1 v2 v3 r9 r9 (1 : Int32) v3 u8))) ∧ (¬ v1 = 0 → J_X10_bodyPlain_66 E v0 v1 v2 v3 r9 r9 u8))) ∧ ((gx_a u8 (gx_r u8 v0 4) (r9 - (1 : Int32)).toNatClampNeg) = (10 : Int32) → (∀ x14 : Int32, x14 = (r9 - (1 : Int32)) → ((v1 = 0 → ((x14 ≤ v3 → J_X10_bodyPlain_109 E v0 v1 v2 v3 r9 x14 (0 : Int32) v3 u8) ∧ (¬ x14 ≤ v3 → J_X10_bodyPlain_109 E v0 v1 v2 v3 r9 x14 (1 : Int32) v3 u8))) ∧ (¬ v1 = 0 → J_X10_bodyPlain_66 E v0 v1 v2 v3 r9 x14 u8)))))))))))) : gx_Wc E 9 15 [(0, .ref (ex_ad E v0)), (1, .int v1), (2, .int v2), (3, .int v3)] [] u := by
  refine gx_iload_n X (j := 3) dX10_bodyPlain_15 rfl rfl ?_
  refine gx_aload_n X (j := 0) dX10_bodyPlain_16 rfl rfl ?_
  obtain ⟨k1, h⟩ := h
  refine gx_get X k1 rfl iwX10 13 (by decide) mw_534 (v := .int (gx_i u v0 13)) rfl dX10_bodyPlain_17 ?_
  refine gx_icmp_ge X (tgt := 218) dX10_bodyPlain_20 (by decide) (fun c18 => ?_) (fun c18 => ?_)
  · replace h := h.1 c18
    refine gx_aload_n X (j := 0) dX10_bodyPlain_218 rfl rfl ?_
    refine gx_get X k1 rfl iwX10 15 (by decide) mw_536 (v := .ref (ex_ad E (gx_r u v0 15))) rfl dX10_bodyPlain_219 ?_
    refine gx_iload_n X (j := 2) dX10_bodyPlain_222 rfl rfl ?_
    obtain ⟨k2, h⟩ := h
    refine gx_put X k2 rfl iwX9 tyX9_ok nmX9 1 (by decide) mw_444 rfl rfl rfl (fun _ => rfl) dX10_bodyPlain_223 ?_
    refine gx_nams (fun u3 eu3 => ?_)
    replace h := h u3 eu3
    refine gx_iload_n X (j := 2) dX10_bodyPlain_226 rfl rfl ?_
    refine gx_if_ne X (tgt := 243) dX10_bodyPlain_227 (by decide) (fun c7 => ?_) (fun c7 => ?_)
    · replace h := h.1 c7
      exact gx_vret X hQ h dX10_bodyPlain_243
    · replace h := h.2 c7
      refine gx_iload_n X (j := 1) dX10_bodyPlain_230 rfl rfl ?_
      refine gx_if_ne X (tgt := 243) dX10_bodyPlain_231 (by decide) (fun c6 => ?_) (fun c6 => ?_)
      · replace h := h.1 c6
        exact gx_vret X hQ h dX10_bodyPlain_243
      · replace h := h.2 c6
        refine gx_aload_n X (j := 0) dX10_bodyPlain_234 rfl rfl ?_
        refine gx_get X k1 rfl iwX10 15 (by decide) mw_536 (v := .ref (ex_ad E (gx_r u3 v0 15))) rfl dX10_bodyPlain_235 ?_
        refine gx_bipush X (v := 10) dX10_bodyPlain_238 (by decide) ?_
        obtain ⟨k4, h⟩ := h
        refine gx_kv (gx_rV X (c_X9_add h) (Nat.le_trans (by decide) hd) (Nat.le_trans (by decide) (Nat.mul_le_mul_left 40 hd)) k4 rfl mw_657 mw_658 mw_659 mw_8 mw_660 hyX9_add (As := [.int (10 : Int32)]) (rest := []) rfl rfl (Nat.le_of_ble_eq_true rfl) dX10_bodyPlain_240) (fun u5 h => ?_)
        exact gx_vret X hQ h dX10_bodyPlain_243
  · replace h := h.2 c18
    refine gx_aload_n X (j := 0) dX10_bodyPlain_23 rfl rfl ?_
    refine gx_get X k1 rfl iwX10 4 (by decide) mw_525 (v := .ref (ex_ad E (gx_r u v0 4))) rfl dX10_bodyPlain_24 ?_
    refine gx_iload_n X (j := 3) dX10_bodyPlain_27 rfl rfl ?_
    refine gx_aload_n X (j := 0) dX10_bodyPlain_28 rfl rfl ?_
    refine gx_get X k1 rfl iwX10 13 (by decide) mw_534 (v := .int (gx_i u v0 13)) rfl dX10_bodyPlain_29 ?_
    refine gx_ki (gx_rS X (c_X10_lineEnd h) (Nat.le_trans (by decide) hd) (Nat.le_trans (by decide) (Nat.mul_le_mul_left 40 hd)) mw_629 mw_630 mw_7 mw_631 hyX10_lineEnd (As := [.ref (ex_ad E (gx_r u v0 4)), .int v3, .int (gx_i u v0 13)]) (rest := []) rfl rfl (Nat.le_of_ble_eq_true rfl) dX10_bodyPlain_32) (fun r9 u8 h => ?_)
    refine gx_istore X (lv' := [(4, .int r9), (0, .ref (ex_ad E v0)), (1, .int v1), (2, .int v2), (3, .int v3)]) dX10_bodyPlain_35 (by decide) rfl ?_
    refine gx_aload_n X (j := 1) dX10_bodyPlain_37 rfl rfl ?_
    refine gx_get X k1 rfl iwX10 4 (by decide) mw_525 (v := .ref (ex_ad E (gx_r u8 v0 4))) rfl dX10_bodyPlain_38 ?_
    refine gx_iload X (j := 0) dX10_bodyPlain_41 rfl ?_
    refine gx_iconst X (v := 1) dX10_bodyPlain_43 (by decide) ?_
    refine gx_isub X dX10_bodyPlain_44 ?_
    obtain ⟨k10, h⟩ := h
    obtain ⟨k11, h⟩ := h
    refine gx_bald X k10 k11 dX10_bodyPlain_45 ?_
    refine gx_bipush X (v := 10) dX10_bodyPlain_46 (by decide) ?_
    refine gx_icmp_ne X (tgt := 58) dX10_bodyPlain_48 (by decide) (fun c17 => ?_) (fun c17 => ?_)
    · replace h := h.1 c17
      refine gx_iload X (j := 0) dX10_bodyPlain_58 rfl ?_
      refine gx_istore X (lv' := [(5, .int r9), (4, .int r9), (0, .ref (ex_ad E v0)), (1, .int v1), (2, .int v2), (3, .int v3)]) dX10_bodyPlain_60 (by decide) rfl ?_
      refine gx_iload_n X (j := 3) dX10_bodyPlain_62 rfl rfl ?_
      refine gx_if_eq X (tgt := 93) dX10_bodyPlain_63 (by decide) (fun c13 => ?_) (fun c13 => ?_)
      · replace h := h.1 c13
        refine gx_iload X (j := 0) dX10_bodyPlain_93 rfl ?_
        refine gx_iload_n X (j := 5) dX10_bodyPlain_95 rfl rfl ?_
        refine gx_icmp_le X (tgt := 103) dX10_bodyPlain_96 (by decide) (fun c12 => ?_) (fun c12 => ?_)
        · replace h := h.1 c12
          refine gx_iconst X (v := 0) dX10_bodyPlain_103 (by decide) ?_
          refine gx_istore X (lv' := [(6, .int (0 : Int32)), (5, .int r9), (4, .int r9), (0, .ref (ex_ad E v0)), (1, .int v1), (2, .int v2), (3, .int v3)]) dX10_bodyPlain_104 (by decide) rfl ?_
          refine gx_iload_n X (j := 6) dX10_bodyPlain_106 rfl rfl ?_
          refine gx_istore X (lv' := [(7, .int v3), (6, .int (0 : Int32)), (5, .int r9), (4, .int r9), (0, .ref (ex_ad E v0)), (1, .int v1), (2, .int v2), (3, .int v3)]) dX10_bodyPlain_107 (by decide) rfl ?_
          exact gx_sub [4, 5, 6, 7, 3, 2, 1, 0] rfl h
        · replace h := h.2 c12
          refine gx_iconst X (v := 1) dX10_bodyPlain_99 (by decide) ?_
          refine gx_goto X (tgt := 104) dX10_bodyPlain_100 (by decide) ?_
          refine gx_istore X (lv' := [(6, .int (1 : Int32)), (5, .int r9), (4, .int r9), (0, .ref (ex_ad E v0)), (1, .int v1), (2, .int v2), (3, .int v3)]) dX10_bodyPlain_104 (by decide) rfl ?_
          refine gx_iload_n X (j := 6) dX10_bodyPlain_106 rfl rfl ?_
          refine gx_istore X (lv' := [(7, .int v3), (6, .int (1 : Int32)), (5, .int r9), (4, .int r9), (0, .ref (ex_ad E v0)), (1, .int v1), (2, .int v2), (3, .int v3)]) dX10_bodyPlain_107 (by decide) rfl ?_
          exact gx_sub [4, 5, 6, 7, 3, 2, 1, 0] rfl h
      · replace h := h.2 c13
        exact gx_sub [2, 3, 4, 5, 1, 0] rfl h
    · replace h := h.2 c17
      refine gx_iload X (j := 0) dX10_bodyPlain_51 rfl ?_
      refine gx_iconst X (v := 1) dX10_bodyPlain_53 (by decide) ?_
      refine gx_isub X dX10_bodyPlain_54 ?_
      refine gx_goto X (tgt := 60) dX10_bodyPlain_55 (by decide) ?_
      refine gx_nami (fun x14 ex14 => ?_)
      replace h := h x14 ex14
      refine gx_istore X (lv' := [(5, .int x14), (4, .int r9), (0, .ref (ex_ad E v0)), (1, .int v1), (2, .int v2), (3, .int v3)]) dX10_bodyPlain_60 (by decide) rfl ?_
      refine gx_iload_n X (j := 3) dX10_bodyPlain_62 rfl rfl ?_
      refine gx_if_eq X (tgt := 93) dX10_bodyPlain_63 (by decide) (fun c16 => ?_) (fun c16 => ?_)
      · replace h := h.1 c16
        refine gx_iload X (j := 0) dX10_bodyPlain_93 rfl ?_
        refine gx_iload_n X (j := 5) dX10_bodyPlain_95 rfl rfl ?_
        refine gx_icmp_le X (tgt := 103) dX10_bodyPlain_96 (by decide) (fun c15 => ?_) (fun c15 => ?_)
        · replace h := h.1 c15
          refine gx_iconst X (v := 0) dX10_bodyPlain_103 (by decide) ?_
          refine gx_istore X (lv' := [(6, .int (0 : Int32)), (5, .int x14), (4, .int r9), (0, .ref (ex_ad E v0)), (1, .int v1), (2, .int v2), (3, .int v3)]) dX10_bodyPlain_104 (by decide) rfl ?_
          refine gx_iload_n X (j := 6) dX10_bodyPlain_106 rfl rfl ?_
          refine gx_istore X (lv' := [(7, .int v3), (6, .int (0 : Int32)), (5, .int x14), (4, .int r9), (0, .ref (ex_ad E v0)), (1, .int v1), (2, .int v2), (3, .int v3)]) dX10_bodyPlain_107 (by decide) rfl ?_
          exact gx_sub [4, 5, 6, 7, 3, 2, 1, 0] rfl h
        · replace h := h.2 c15
          refine gx_iconst X (v := 1) dX10_bodyPlain_99 (by decide) ?_
          refine gx_goto X (tgt := 104) dX10_bodyPlain_100 (by decide) ?_
          refine gx_istore X (lv' := [(6, .int (1 : Int32)), (5, .int x14), (4, .int r9), (0, .ref (ex_ad E v0)), (1, .int v1), (2, .int v2), (3, .int v3)]) dX10_bodyPlain_104 (by decide) rfl ?_
          refine gx_iload_n X (j := 6) dX10_bodyPlain_106 rfl rfl ?_
          refine gx_istore X (lv' := [(7, .int v3), (6, .int (1 : Int32)), (5, .int x14), (4, .int r9), (0, .ref (ex_ad E v0)), (1, .int v1), (2, .int v2), (3, .int v3)]) dX10_bodyPlain_107 (by decide) rfl ?_
          exact gx_sub [4, 5, 6, 7, 3, 2, 1, 0] rfl h
      · replace h := h.2 c16
        exact gx_sub [2, 3, 4, 5, 1, 0] rfl h
set_option maxHeartbeats 4000000 in
set_option maxRecDepth 100000 in
theorem w_X10_bodyPlain_66 {E : gx_E} (X : gx_X E cX10_bodyPlain 9 RX10 none) (hd : 2 ≤ ex_d E) {post : gx_S → Prop} (hQ : ex_Q E = va_Qv post (gx_B (ex_Z E)) (gx_A (ex_Z E))) {u : gx_S} {v0 : Nat} {v1 : Int32} {v2 : Int32} {v3 : Int32} {v4 : Int32} {v5 : Int32} (h : ((v5 ≤ v3 → ((v5 ≤ v3 → J_X10_bodyPlain_109 E v0 v1 v2 v3 v4 v5 (0 : Int32) v3 u) ∧ (¬ v5 ≤ v3 → J_X10_bodyPlain_109 E v0 v1 v2 v3 v4 v5 (1 : Int32) v3 u))) ∧ (¬ v5 ≤ v3 → (gx_isO v0 9 ∧ (gx_isR (gx_r u v0 4) .byte ∧ vp_in (v5 - (1 : Int32)) (gx_len (gx_r u v0 4)) ∧ (S_X10_isWhite u (gx_a u (gx_r u v0 4) (v5 - (1 : Int32)).toNatClampNeg) (fun (r6 : Int32) (u5 : gx_S) => ((r6 = 0 → ((v5 ≤ v3 → J_X10_bodyPlain_109 E v0 v1 v2 v3 v4 v5 (0 : Int32) v3 u5) ∧ (¬ v5 ≤ v3 → J_X10_bodyPlain_109 E v0 v1 v2 v3 v4 v5 (1 : Int32) v3 u5))) ∧ (¬ r6 = 0 → (∀ x8 : Int32, x8 = v5 + (-1) → J_X10_bodyPlain_66 E v0 v1 v2 v3 v4 x8 u5)))))))))) : gx_Wc E 9 66 [(0, .ref (ex_ad E v0)), (1, .int v1), (2, .int v2), (3, .int v3), (4, .int v4), (5, .int v5)] [] u := by
  refine gx_iload X (j := 5) dX10_bodyPlain_66 rfl ?_
  refine gx_iload_n X (j := 3) dX10_bodyPlain_68 rfl rfl ?_
  refine gx_icmp_le X (tgt := 93) dX10_bodyPlain_69 (by decide) (fun c10 => ?_) (fun c10 => ?_)
  · replace h := h.1 c10
    refine gx_iload X (j := 5) dX10_bodyPlain_93 rfl ?_
    refine gx_iload_n X (j := 3) dX10_bodyPlain_95 rfl rfl ?_
    refine gx_icmp_le X (tgt := 103) dX10_bodyPlain_96 (by decide) (fun c1 => ?_) (fun c1 => ?_)
    · replace h := h.1 c1
      refine gx_iconst X (v := 0) dX10_bodyPlain_103 (by decide) ?_
      refine gx_istore X (lv' := [(6, .int (0 : Int32)), (0, .ref (ex_ad E v0)), (1, .int v1), (2, .int v2), (3, .int v3), (4, .int v4), (5, .int v5)]) dX10_bodyPlain_104 (by decide) rfl ?_
      refine gx_iload_n X (j := 4) dX10_bodyPlain_106 rfl rfl ?_
      refine gx_istore X (lv' := [(7, .int v3), (6, .int (0 : Int32)), (0, .ref (ex_ad E v0)), (1, .int v1), (2, .int v2), (3, .int v3), (4, .int v4), (5, .int v5)]) dX10_bodyPlain_107 (by decide) rfl ?_
      exact gx_sub [2, 3, 4, 5, 6, 7, 1, 0] rfl h
    · replace h := h.2 c1
      refine gx_iconst X (v := 1) dX10_bodyPlain_99 (by decide) ?_
      refine gx_goto X (tgt := 104) dX10_bodyPlain_100 (by decide) ?_
      refine gx_istore X (lv' := [(6, .int (1 : Int32)), (0, .ref (ex_ad E v0)), (1, .int v1), (2, .int v2), (3, .int v3), (4, .int v4), (5, .int v5)]) dX10_bodyPlain_104 (by decide) rfl ?_
      refine gx_iload_n X (j := 4) dX10_bodyPlain_106 rfl rfl ?_
      refine gx_istore X (lv' := [(7, .int v3), (6, .int (1 : Int32)), (0, .ref (ex_ad E v0)), (1, .int v1), (2, .int v2), (3, .int v3), (4, .int v4), (5, .int v5)]) dX10_bodyPlain_107 (by decide) rfl ?_
      exact gx_sub [2, 3, 4, 5, 6, 7, 1, 0] rfl h
  · replace h := h.2 c10
    refine gx_aload_n X (j := 0) dX10_bodyPlain_72 rfl rfl ?_
    obtain ⟨k2, h⟩ := h
    refine gx_get X k2 rfl iwX10 4 (by decide) mw_525 (v := .ref (ex_ad E (gx_r u v0 4))) rfl dX10_bodyPlain_73 ?_
    refine gx_iload X (j := 5) dX10_bodyPlain_76 rfl ?_
    refine gx_iconst X (v := 1) dX10_bodyPlain_78 (by decide) ?_
    refine gx_isub X dX10_bodyPlain_79 ?_
    obtain ⟨k3, h⟩ := h
    obtain ⟨k4, h⟩ := h
    refine gx_bald X k3 k4 dX10_bodyPlain_80 ?_
    refine gx_ki (gx_rS X (c_X10_isWhite h) (Nat.le_trans (by decide) hd) (Nat.le_trans (by decide) (Nat.mul_le_mul_left 40 hd)) mw_635 mw_636 mw_7 mw_637 hyX10_isWhite (As := [.int (gx_a u (gx_r u v0 4) (v5 - (1 : Int32)).toNatClampNeg)]) (rest := []) rfl rfl (Nat.le_of_ble_eq_true rfl) dX10_bodyPlain_81) (fun r6 u5 h => ?_)
    refine gx_if_eq X (tgt := 93) dX10_bodyPlain_84 (by decide) (fun c9 => ?_) (fun c9 => ?_)
    · replace h := h.1 c9
      refine gx_iload X (j := 5) dX10_bodyPlain_93 rfl ?_
      refine gx_iload_n X (j := 3) dX10_bodyPlain_95 rfl rfl ?_
      refine gx_icmp_le X (tgt := 103) dX10_bodyPlain_96 (by decide) (fun c7 => ?_) (fun c7 => ?_)
      · replace h := h.1 c7
        refine gx_iconst X (v := 0) dX10_bodyPlain_103 (by decide) ?_
        refine gx_istore X (lv' := [(6, .int (0 : Int32)), (0, .ref (ex_ad E v0)), (1, .int v1), (2, .int v2), (3, .int v3), (4, .int v4), (5, .int v5)]) dX10_bodyPlain_104 (by decide) rfl ?_
        refine gx_iload_n X (j := 4) dX10_bodyPlain_106 rfl rfl ?_
        refine gx_istore X (lv' := [(7, .int v3), (6, .int (0 : Int32)), (0, .ref (ex_ad E v0)), (1, .int v1), (2, .int v2), (3, .int v3), (4, .int v4), (5, .int v5)]) dX10_bodyPlain_107 (by decide) rfl ?_
        exact gx_sub [2, 3, 4, 5, 6, 7, 1, 0] rfl h
      · replace h := h.2 c7
        refine gx_iconst X (v := 1) dX10_bodyPlain_99 (by decide) ?_
        refine gx_goto X (tgt := 104) dX10_bodyPlain_100 (by decide) ?_
        refine gx_istore X (lv' := [(6, .int (1 : Int32)), (0, .ref (ex_ad E v0)), (1, .int v1), (2, .int v2), (3, .int v3), (4, .int v4), (5, .int v5)]) dX10_bodyPlain_104 (by decide) rfl ?_
        refine gx_iload_n X (j := 4) dX10_bodyPlain_106 rfl rfl ?_
        refine gx_istore X (lv' := [(7, .int v3), (6, .int (1 : Int32)), (0, .ref (ex_ad E v0)), (1, .int v1), (2, .int v2), (3, .int v3), (4, .int v4), (5, .int v5)]) dX10_bodyPlain_107 (by decide) rfl ?_
        exact gx_sub [2, 3, 4, 5, 6, 7, 1, 0] rfl h
    · replace h := h.2 c9
      obtain ⟨x8, ex8⟩ : ∃ y : Int32, y = v5 + (-1) := ⟨_, rfl⟩
      replace h := h x8 ex8
      refine gx_iinc X (v := x8) (lv' := [(5, .int x8), (0, .ref (ex_ad E v0)), (1, .int v1), (2, .int v2), (3, .int v3), (4, .int v4)]) dX10_bodyPlain_87 (j := 5) rfl (by rw [ex8]; rfl) (by decide) rfl ?_
      refine gx_goto X (tgt := 66) dX10_bodyPlain_90 (by decide) ?_
      exact gx_sub [1, 2, 3, 4, 5, 0] rfl h
set_option maxHeartbeats 4000000 in
set_option maxRecDepth 100000 in
theorem w_X10_bodyPlain_109 {E : gx_E} (X : gx_X E cX10_bodyPlain 9 RX10 none) (hd : 2 ≤ ex_d E) {post : gx_S → Prop} (hQ : ex_Q E = va_Qv post (gx_B (ex_Z E)) (gx_A (ex_Z E))) {u : gx_S} {v0 : Nat} {v1 : Int32} {v2 : Int32} {v3 : Int32} {v4 : Int32} {v5 : Int32} {v6 : Int32} {v7 : Int32} (h : ((v5 ≤ v7 → (gx_isO v0 9 ∧ (gx_isO (gx_r u v0 15) 8 ∧ S_X9_add u (gx_r u v0 15) (10 : Int32) (fun (u3 : gx_S) => ((v6 = 0 → J_X10_bodyPlain_15 E v0 v1 v2 v4 u3) ∧ (¬ v6 = 0 → (gx_isO (gx_r u3 v0 15) 8 ∧ (∀ x5 : Int32, x5 = (gx_i u3 (gx_r u3 v0 15) 1) → J_X10_bodyPlain_15 E v0 v1 x5 v4 u3)))))))) ∧ (¬ v5 ≤ v7 → (gx_isO v0 9 ∧ (gx_isR (gx_r u v0 4) .byte ∧ vp_in v7 (gx_len (gx_r u v0 4)) ∧ (S_X10_isWhite u (gx_a u (gx_r u v0 4) v7.toNatClampNeg) (fun (r11 : Int32) (u10 : gx_S) => ((v1 = 0 → (gx_isR (gx_r u10 v0 4) .byte ∧ vp_in v7 (gx_len (gx_r u10 v0 4)) ∧ (gx_isO (gx_r u10 v0 15) 8 ∧ S_X9_add u10 (gx_r u10 v0 15) (gx_a u10 (gx_r u10 v0 4) v7.toNatClampNeg) (fun (u15 : gx_S) => (∀ x16 : Int32, x16 = v7 + 1 → J_X10_bodyPlain_109 E v0 v1 v2 v3 v4 v5 v6 x16 u15))))) ∧ (¬ v1 = 0 → ((¬ r11 = 0 → (gx_isR (gx_r u10 v0 4) .byte ∧ vp_in (v7 - (1 : Int32)) (gx_len (gx_r u10 v0 4)) ∧ (S_X10_isWhite u10 (gx_a u10 (gx_r u10 v0 4) (v7 - (1 : Int32)).toNatClampNeg) (fun (r20 : Int32) (u19 : gx_S) => ((r20 = 0 → (gx_isO (gx_r u19 v0 15) 8 ∧ S_X9_add u19 (gx_r u19 v0 15) (32 : Int32) (fun (u22 : gx_S) => (∀ x23 : Int32, x23 = v7 + 1 → J_X10_bodyPlain_109 E v0 v1 v2 v3 v4 v5 v6 x23 u22)))) ∧ (¬ r20 = 0 → ((¬ v7 = v3 → (∀ x24 : Int32, x24 = v7 + 1 → J_X10_bodyPlain_109 E v0 v1 v2 v3 v4 v5 v6 x24 u19)) ∧ (v7 = v3 → (gx_isO (gx_r u19 v0 15) 8 ∧ S_X9_add u19 (gx_r u19 v0 15) (32 : Int32) (fun (u26 : gx_S) => (∀ x27 : Int32, x27 = v7 + 1 → J_X10_bodyPlain_109 E v0 v1 v2 v3 v4 v5 v6 x27 u26))))))))))) ∧ (r11 = 0 → (gx_isR (gx_r u10 v0 4) .byte ∧ vp_in v7 (gx_len (gx_r u10 v0 4)) ∧ (gx_isO (gx_r u10 v0 15) 8 ∧ S_X9_add u10 (gx_r u10 v0 15) (gx_a u10 (gx_r u10 v0 4) v7.toNatClampNeg) (fun (u33 : gx_S) => (∀ x34 : Int32, x34 = v7 + 1 → J_X10_bodyPlain_109 E v0 v1 v2 v3 v4 v5 v6 x34 u33))))))))))))))) : gx_Wc E 9 109 [(0, .ref (ex_ad E v0)), (1, .int v1), (2, .int v2), (3, .int v3), (4, .int v4), (5, .int v5), (6, .int v6), (7, .int v7)] [] u := by
  refine gx_iload X (j := 7) dX10_bodyPlain_109 rfl ?_
  refine gx_iload X (j := 5) dX10_bodyPlain_111 rfl ?_
  refine gx_icmp_ge X (tgt := 190) dX10_bodyPlain_113 (by decide) (fun c37 => ?_) (fun c37 => ?_)
  · replace h := h.1 c37
    refine gx_aload_n X (j := 0) dX10_bodyPlain_190 rfl rfl ?_
    obtain ⟨k1, h⟩ := h
    refine gx_get X k1 rfl iwX10 15 (by decide) mw_536 (v := .ref (ex_ad E (gx_r u v0 15))) rfl dX10_bodyPlain_191 ?_
    refine gx_bipush X (v := 10) dX10_bodyPlain_194 (by decide) ?_
    obtain ⟨k2, h⟩ := h
    refine gx_kv (gx_rV X (c_X9_add h) (Nat.le_trans (by decide) hd) (Nat.le_trans (by decide) (Nat.mul_le_mul_left 40 hd)) k2 rfl mw_657 mw_658 mw_659 mw_8 mw_660 hyX9_add (As := [.int (10 : Int32)]) (rest := []) rfl rfl (Nat.le_of_ble_eq_true rfl) dX10_bodyPlain_196) (fun u3 h => ?_)
    refine gx_iload X (j := 6) dX10_bodyPlain_199 rfl ?_
    refine gx_if_eq X (tgt := 212) dX10_bodyPlain_201 (by decide) (fun c6 => ?_) (fun c6 => ?_)
    · replace h := h.1 c6
      refine gx_iload X (j := 4) dX10_bodyPlain_212 rfl ?_
      refine gx_istore_n X (lv' := [(3, .int v4), (0, .ref (ex_ad E v0)), (1, .int v1), (2, .int v2), (4, .int v4), (5, .int v5), (6, .int v6), (7, .int v7)]) dX10_bodyPlain_214 rfl (by decide) rfl ?_
      refine gx_goto X (tgt := 15) dX10_bodyPlain_215 (by decide) ?_
      exact gx_sub [1, 2, 3, 0] rfl h
    · replace h := h.2 c6
      refine gx_aload_n X (j := 0) dX10_bodyPlain_204 rfl rfl ?_
      refine gx_get X k1 rfl iwX10 15 (by decide) mw_536 (v := .ref (ex_ad E (gx_r u3 v0 15))) rfl dX10_bodyPlain_205 ?_
      obtain ⟨k4, h⟩ := h
      refine gx_get X k4 rfl iwX9 1 (by decide) mw_444 (v := .int (gx_i u3 (gx_r u3 v0 15) 1)) rfl dX10_bodyPlain_208 ?_
      refine gx_nami (fun x5 ex5 => ?_)
      replace h := h x5 ex5
      refine gx_istore_n X (lv' := [(2, .int x5), (0, .ref (ex_ad E v0)), (1, .int v1), (3, .int v3), (4, .int v4), (5, .int v5), (6, .int v6), (7, .int v7)]) dX10_bodyPlain_211 rfl (by decide) rfl ?_
      refine gx_iload X (j := 4) dX10_bodyPlain_212 rfl ?_
      refine gx_istore_n X (lv' := [(3, .int v4), (2, .int x5), (0, .ref (ex_ad E v0)), (1, .int v1), (4, .int v4), (5, .int v5), (6, .int v6), (7, .int v7)]) dX10_bodyPlain_214 rfl (by decide) rfl ?_
      refine gx_goto X (tgt := 15) dX10_bodyPlain_215 (by decide) ?_
      exact gx_sub [2, 3, 1, 0] rfl h
  · replace h := h.2 c37
    refine gx_aload_n X (j := 0) dX10_bodyPlain_116 rfl rfl ?_
    obtain ⟨k7, h⟩ := h
    refine gx_get X k7 rfl iwX10 4 (by decide) mw_525 (v := .ref (ex_ad E (gx_r u v0 4))) rfl dX10_bodyPlain_117 ?_
    refine gx_iload X (j := 7) dX10_bodyPlain_120 rfl ?_
    obtain ⟨k8, h⟩ := h
    obtain ⟨k9, h⟩ := h
    refine gx_bald X k8 k9 dX10_bodyPlain_122 ?_
    refine gx_ki (gx_rS X (c_X10_isWhite h) (Nat.le_trans (by decide) hd) (Nat.le_trans (by decide) (Nat.mul_le_mul_left 40 hd)) mw_635 mw_636 mw_7 mw_637 hyX10_isWhite (As := [.int (gx_a u (gx_r u v0 4) v7.toNatClampNeg)]) (rest := []) rfl rfl (Nat.le_of_ble_eq_true rfl) dX10_bodyPlain_123) (fun r11 u10 h => ?_)
    refine gx_istore X (lv' := [(8, .int r11), (0, .ref (ex_ad E v0)), (1, .int v1), (2, .int v2), (3, .int v3), (4, .int v4), (5, .int v5), (6, .int v6), (7, .int v7)]) dX10_bodyPlain_126 (by decide) rfl ?_
    refine gx_iload_n X (j := 2) dX10_bodyPlain_128 rfl rfl ?_
    refine gx_if_eq X (tgt := 137) dX10_bodyPlain_129 (by decide) (fun c36 => ?_) (fun c36 => ?_)
    · replace h := h.1 c36
      refine gx_aload_n X (j := 1) dX10_bodyPlain_137 rfl rfl ?_
      refine gx_get X k7 rfl iwX10 15 (by decide) mw_536 (v := .ref (ex_ad E (gx_r u10 v0 15))) rfl dX10_bodyPlain_138 ?_
      refine gx_aload_n X (j := 1) dX10_bodyPlain_141 rfl rfl ?_
      refine gx_get X k7 rfl iwX10 4 (by decide) mw_525 (v := .ref (ex_ad E (gx_r u10 v0 4))) rfl dX10_bodyPlain_142 ?_
      refine gx_iload X (j := 8) dX10_bodyPlain_145 rfl ?_
      obtain ⟨k12, h⟩ := h
      obtain ⟨k13, h⟩ := h
      refine gx_bald X k12 k13 dX10_bodyPlain_147 ?_
      obtain ⟨k14, h⟩ := h
      refine gx_kv (gx_rV X (c_X9_add h) (Nat.le_trans (by decide) hd) (Nat.le_trans (by decide) (Nat.mul_le_mul_left 40 hd)) k14 rfl mw_657 mw_658 mw_659 mw_8 mw_660 hyX9_add (As := [.int (gx_a u10 (gx_r u10 v0 4) v7.toNatClampNeg)]) (rest := []) rfl rfl (Nat.le_of_ble_eq_true rfl) dX10_bodyPlain_148) (fun u15 h => ?_)
      refine gx_goto X (tgt := 184) dX10_bodyPlain_151 (by decide) ?_
      obtain ⟨x16, ex16⟩ : ∃ y : Int32, y = v7 + 1 := ⟨_, rfl⟩
      replace h := h x16 ex16
      refine gx_iinc X (v := x16) (lv' := [(7, .int x16), (8, .int r11), (0, .ref (ex_ad E v0)), (1, .int v1), (2, .int v2), (3, .int v3), (4, .int v4), (5, .int v5), (6, .int v6)]) dX10_bodyPlain_184 (j := 8) rfl (by rw [ex16]; rfl) (by decide) rfl ?_
      refine gx_goto X (tgt := 109) dX10_bodyPlain_187 (by decide) ?_
      exact gx_sub [2, 3, 4, 5, 6, 7, 8, 0] rfl h
    · replace h := h.2 c36
      refine gx_iload X (j := 0) dX10_bodyPlain_132 rfl ?_
      refine gx_if_ne X (tgt := 154) dX10_bodyPlain_134 (by decide) (fun c35 => ?_) (fun c35 => ?_)
      · replace h := h.1 c35
        refine gx_aload_n X (j := 1) dX10_bodyPlain_154 rfl rfl ?_
        refine gx_get X k7 rfl iwX10 4 (by decide) mw_525 (v := .ref (ex_ad E (gx_r u10 v0 4))) rfl dX10_bodyPlain_155 ?_
        refine gx_iload X (j := 8) dX10_bodyPlain_158 rfl ?_
        refine gx_iconst X (v := 1) dX10_bodyPlain_160 (by decide) ?_
        refine gx_isub X dX10_bodyPlain_161 ?_
        obtain ⟨k17, h⟩ := h
        obtain ⟨k18, h⟩ := h
        refine gx_bald X k17 k18 dX10_bodyPlain_162 ?_
        refine gx_ki (gx_rS X (c_X10_isWhite h) (Nat.le_trans (by decide) hd) (Nat.le_trans (by decide) (Nat.mul_le_mul_left 40 hd)) mw_635 mw_636 mw_7 mw_637 hyX10_isWhite (As := [.int (gx_a u10 (gx_r u10 v0 4) (v7 - (1 : Int32)).toNatClampNeg)]) (rest := []) rfl rfl (Nat.le_of_ble_eq_true rfl) dX10_bodyPlain_163) (fun r20 u19 h => ?_)
        refine gx_if_eq X (tgt := 175) dX10_bodyPlain_166 (by decide) (fun c29 => ?_) (fun c29 => ?_)
        · replace h := h.1 c29
          refine gx_aload_n X (j := 1) dX10_bodyPlain_175 rfl rfl ?_
          refine gx_get X k7 rfl iwX10 15 (by decide) mw_536 (v := .ref (ex_ad E (gx_r u19 v0 15))) rfl dX10_bodyPlain_176 ?_
          refine gx_bipush X (v := 32) dX10_bodyPlain_179 (by decide) ?_
          obtain ⟨k21, h⟩ := h
          refine gx_kv (gx_rV X (c_X9_add h) (Nat.le_trans (by decide) hd) (Nat.le_trans (by decide) (Nat.mul_le_mul_left 40 hd)) k21 rfl mw_657 mw_658 mw_659 mw_8 mw_660 hyX9_add (As := [.int (32 : Int32)]) (rest := []) rfl rfl (Nat.le_of_ble_eq_true rfl) dX10_bodyPlain_181) (fun u22 h => ?_)
          obtain ⟨x23, ex23⟩ : ∃ y : Int32, y = v7 + 1 := ⟨_, rfl⟩
          replace h := h x23 ex23
          refine gx_iinc X (v := x23) (lv' := [(7, .int x23), (8, .int r11), (0, .ref (ex_ad E v0)), (1, .int v1), (2, .int v2), (3, .int v3), (4, .int v4), (5, .int v5), (6, .int v6)]) dX10_bodyPlain_184 (j := 8) rfl (by rw [ex23]; rfl) (by decide) rfl ?_
          refine gx_goto X (tgt := 109) dX10_bodyPlain_187 (by decide) ?_
          exact gx_sub [2, 3, 4, 5, 6, 7, 8, 0] rfl h
        · replace h := h.2 c29
          refine gx_iload X (j := 8) dX10_bodyPlain_169 rfl ?_
          refine gx_iload_n X (j := 4) dX10_bodyPlain_171 rfl rfl ?_
          refine gx_icmp_ne X (tgt := 184) dX10_bodyPlain_172 (by decide) (fun c28 => ?_) (fun c28 => ?_)
          · replace h := h.1 c28
            obtain ⟨x24, ex24⟩ : ∃ y : Int32, y = v7 + 1 := ⟨_, rfl⟩
            replace h := h x24 ex24
            refine gx_iinc X (v := x24) (lv' := [(7, .int x24), (8, .int r11), (0, .ref (ex_ad E v0)), (1, .int v1), (2, .int v2), (3, .int v3), (4, .int v4), (5, .int v5), (6, .int v6)]) dX10_bodyPlain_184 (j := 8) rfl (by rw [ex24]; rfl) (by decide) rfl ?_
            refine gx_goto X (tgt := 109) dX10_bodyPlain_187 (by decide) ?_
            exact gx_sub [2, 3, 4, 5, 6, 7, 8, 0] rfl h
          · replace h := h.2 c28
            refine gx_aload_n X (j := 1) dX10_bodyPlain_175 rfl rfl ?_
            refine gx_get X k7 rfl iwX10 15 (by decide) mw_536 (v := .ref (ex_ad E (gx_r u19 v0 15))) rfl dX10_bodyPlain_176 ?_
            refine gx_bipush X (v := 32) dX10_bodyPlain_179 (by decide) ?_
            obtain ⟨k25, h⟩ := h
            refine gx_kv (gx_rV X (c_X9_add h) (Nat.le_trans (by decide) hd) (Nat.le_trans (by decide) (Nat.mul_le_mul_left 40 hd)) k25 rfl mw_657 mw_658 mw_659 mw_8 mw_660 hyX9_add (As := [.int (32 : Int32)]) (rest := []) rfl rfl (Nat.le_of_ble_eq_true rfl) dX10_bodyPlain_181) (fun u26 h => ?_)
            obtain ⟨x27, ex27⟩ : ∃ y : Int32, y = v7 + 1 := ⟨_, rfl⟩
            replace h := h x27 ex27
            refine gx_iinc X (v := x27) (lv' := [(7, .int x27), (8, .int r11), (0, .ref (ex_ad E v0)), (1, .int v1), (2, .int v2), (3, .int v3), (4, .int v4), (5, .int v5), (6, .int v6)]) dX10_bodyPlain_184 (j := 8) rfl (by rw [ex27]; rfl) (by decide) rfl ?_
            refine gx_goto X (tgt := 109) dX10_bodyPlain_187 (by decide) ?_
            exact gx_sub [2, 3, 4, 5, 6, 7, 8, 0] rfl h
      · replace h := h.2 c35
        refine gx_aload_n X (j := 1) dX10_bodyPlain_137 rfl rfl ?_
        refine gx_get X k7 rfl iwX10 15 (by decide) mw_536 (v := .ref (ex_ad E (gx_r u10 v0 15))) rfl dX10_bodyPlain_138 ?_
        refine gx_aload_n X (j := 1) dX10_bodyPlain_141 rfl rfl ?_
        refine gx_get X k7 rfl iwX10 4 (by decide) mw_525 (v := .ref (ex_ad E (gx_r u10 v0 4))) rfl dX10_bodyPlain_142 ?_
        refine gx_iload X (j := 8) dX10_bodyPlain_145 rfl ?_
        obtain ⟨k30, h⟩ := h
        obtain ⟨k31, h⟩ := h
        refine gx_bald X k30 k31 dX10_bodyPlain_147 ?_
        obtain ⟨k32, h⟩ := h
        refine gx_kv (gx_rV X (c_X9_add h) (Nat.le_trans (by decide) hd) (Nat.le_trans (by decide) (Nat.mul_le_mul_left 40 hd)) k32 rfl mw_657 mw_658 mw_659 mw_8 mw_660 hyX9_add (As := [.int (gx_a u10 (gx_r u10 v0 4) v7.toNatClampNeg)]) (rest := []) rfl rfl (Nat.le_of_ble_eq_true rfl) dX10_bodyPlain_148) (fun u33 h => ?_)
        refine gx_goto X (tgt := 184) dX10_bodyPlain_151 (by decide) ?_
        obtain ⟨x34, ex34⟩ : ∃ y : Int32, y = v7 + 1 := ⟨_, rfl⟩
        replace h := h x34 ex34
        refine gx_iinc X (v := x34) (lv' := [(7, .int x34), (8, .int r11), (0, .ref (ex_ad E v0)), (1, .int v1), (2, .int v2), (3, .int v3), (4, .int v4), (5, .int v5), (6, .int v6)]) dX10_bodyPlain_184 (j := 8) rfl (by rw [ex34]; rfl) (by decide) rfl ?_
        refine gx_goto X (tgt := 109) dX10_bodyPlain_187 (by decide) ?_
        exact gx_sub [2, 3, 4, 5, 6, 7, 8, 0] rfl h
-- texts
def txt (u : gx_S) (o a : Nat) (L : List Nat) : Prop := gx_i u o 1 = nI L.length ∧ rdb L (gx_a u a)
theorem isO22 : gx_isO 22 8 := isO_x 22 8 (by decide)
theorem isA37 : gx_isA 37 .byte := ⟨by decide, rfl⟩
theorem i_X9_add {u : gx_S} {o a c : Nat} {L : List Nat} {x : Int32} {post : gx_S → Prop} (ho : gx_isO o 8) (hr : gx_r u o 0 = a) (ha : gx_isA a .byte) (hl : L.length < gx_len a) (hl2 : gx_len a < 2 ^ 31) (hL : txt u o a L) (hc : c < 256) (hx : x.toInt8.toInt32 = sb_b c) (h : ∀ v, exG [a] [(o, 1)] u v → txt v o a (L ++ [c]) → post v) : S_X9_add u o x post := by
  unfold S_X9_add
  rw [hr, hL.1, nI_clamp (by omega), hx, byte_sb hc]
  refine ⟨ho, ha, vp_in_nI hl hl2, ?_⟩
  intro u4 e4 u5 e5
  refine h u5 (exG_tr (v := u4) (by rw [e4]; exact exG_pa _ _ (by simp)) (by rw [e5]; exact exG_pi _ _ (by simp))) ⟨?_, ?_⟩
  · rw [e5, gx_i_pi, if_pos ⟨rfl, rfl⟩, e4, gx_i_pa, hL.1, nI_1, len_push]
  · rw [e5, gx_a_pi, e4, gx_a_pa, if_pos rfl]
    exact rdb_push hL.2 hc rfl
theorem txt_ex {A : List Nat} {F : List (Nat × Nat)} {u v : gx_S} {o a : Nat} {L : List Nat} (h : exG A F u v) (hA : a ∉ A) (hF : (o, 1) ∉ F) (m : txt u o a L) : txt v o a L := ⟨by rw [h.1 o 1 hF]; exact m.1, by rw [h.2.2 a hA]; exact m.2⟩
theorem txt_cut {u : gx_S} {o a n : Nat} {L : List Nat} (h : txt u o a L) (hn : n ≤ L.length) : txt (gx_pi u o 1 (nI n)) o a (L.take n) := ⟨by rw [gx_i_pi, if_pos ⟨rfl, rfl⟩, List.length_take, Nat.min_eq_left hn], rdb_take h.2 n⟩
/-- plain's own add -/
theorem a22 {u : gx_S} {t c : Nat} {L : List Nat} {x : Int32} {post : gx_S → Prop} (hf : mfix t u) (hl : L.length < 4000) (hL : txt u 22 37 L) (hc : c < 256) (hx : x.toInt8.toInt32 = sb_b c) (h : ∀ v, exG [37] [(22, 1)] u v → txt v 22 37 (L ++ [c]) → post v) : S_X9_add u 22 x post :=
  i_X9_add (a := 37) isO22 (hf 22 0 (by decide) (by decide)) isA37 hl (by decide) hL hc hx h
theorem in30 {i : Nat} (h : i < 2000) : vp_in (nI i) (gx_len 30) := vp_in_nI (N := 2000) h (by omega)
-- the body, by lines
def ws (w : Bool) : List Nat := if w then [32] else []
theorem bdF_ws {M : List Nat} : ∀ (d s nl : Nat) (w : Bool) (O : List Nat), s + d ≤ M.length → (∀ j, s ≤ j → j < s + d → isW (ch M j) = true) → bdF M true (M.length - s) s nl w O = bdF M true (M.length - (s + d)) (s + d) nl (w || decide (0 < d)) O
  | 0, s, nl, w, O, _, _ => by simp
  | d + 1, s, nl, w, O, h1, h2 => by
    have hw := h2 s (Nat.le_refl _) (by omega)
    rw [show M.length - s = (M.length - (s + 1)) + 1 by omega]
    conv => lhs; unfold bdF
    rw [if_neg (isW_N hw).2.2, if_pos (by rw [hw]; rfl), bdF_ws d (s + 1) nl true O (by omega) (fun j x y => h2 j (by omega) (by omega)), show s + 1 + d = s + (d + 1) by omega]
    simp
/-- what follows the part that is told of a line adds a line's end alone -/
theorem bdF_tail {M : List Nat} {rel : Bool} {s e : Nat} (he : e ≤ M.length) (hs : s ≤ e) (h : (s < e ∧ ch M (e - 1) = 10 ∧ ∀ j, s ≤ j → j < e - 1 → rel = true ∧ isW (ch M j) = true) ∨ (e = M.length ∧ ∀ j, s ≤ j → j < e → rel = true ∧ isW (ch M j) = true)) (nl : Nat) (O : List Nat) : bdF M rel (M.length - s) s nl false O = bdF M rel (M.length - e) e (nl + 1) false O := by
  rcases h with ⟨h1, h2, h3⟩ | ⟨h1, h3⟩
  · have e1 : bdF M rel (M.length - s) s nl false O = bdF M rel (M.length - (e - 1)) (e - 1) nl (decide (s < e - 1)) O := by
      by_cases z : s = e - 1
      · rw [z]; simp
      · have hr := (h3 s (Nat.le_refl _) (by omega)).1
        subst hr
        rw [bdF_ws (e - 1 - s) s nl false O (by omega) (fun j x y => (h3 j x (by omega)).2), show s + (e - 1 - s) = e - 1 by omega]
        congr 1
        simp
        omega
    rw [e1, show M.length - (e - 1) = (M.length - e) + 1 by omega]
    conv => lhs; unfold bdF
    rw [if_pos h2, show e - 1 + 1 = e by omega]
  · subst h1
    by_cases z : s = M.length
    · subst z
      rw [Nat.sub_self]
      rfl
    · have hr := (h3 s (Nat.le_refl _) (by omega)).1
      subst hr
      rw [bdF_ws (M.length - s) s nl false O (by omega) (fun j x y => (h3 j x (by omega)).2), show s + (M.length - s) = M.length by omega, Nat.sub_self]
      rfl
def S_X10_bodyPlain (u : gx_S) (v0 : Nat) (v1 : Int32) (post : gx_S → Prop) : Prop := v0 = 21 ∧ ∃ (t k : Nat) (M : List Nat) (rel : Bool), mfix t u ∧ mm u M k ∧ k ≠ 0 ∧ v1 = b2 rel ∧ ∀ v, exG [37] [(22, 1)] u v → txt v 22 37 (bodyO M rel (plc M k + 1)) → post v
theorem st66 {E : gx_E} (X : gx_X E cX10_bodyPlain 9 RX10 none) (hd : 2 ≤ ex_d E) {post : gx_S → Prop} (hQ : ex_Q E = va_Qv post (gx_B (ex_Z E)) (gx_A (ex_Z E))) {t a e e1 : Nat} {v2 : Int32} {M : List Nat} {u : gx_S} (hf : mfix t u) (hM : rdb M (gx_a u 30)) (hMl : M.length ≤ 2000) (he : e1 ≤ M.length) (h : ∀ s, a ≤ s → s ≤ e1 → (∀ j, s ≤ j → j < e1 → isW (ch M j) = true) → (a < s → isW (ch M (s - 1)) = false) → J_X10_bodyPlain_109 E 21 (b2 true) v2 (nI a) (nI e) (nI s) (b2 (decide (a < s))) (nI a) u) :
    ∀ n s, s - a = n → a ≤ s → s ≤ e1 → (∀ j, s ≤ j → j < e1 → isW (ch M j) = true) → J_X10_bodyPlain_66 E 21 (b2 true) v2 (nI a) (nI e) (nI s) u := by
  intro n
  induction n with
  | zero =>
    intro s hn h1 h2 h3
    have := h s h1 h2 h3 (fun z => by omega)
    rw [decide_eq_false (by omega)] at this
    exact w_X10_bodyPlain_66 X hd hQ ⟨fun _ => ⟨fun _ => this, fun q => absurd (nI_le (by omega) (by omega)) q⟩, fun q => absurd (nI_le (by omega) (by omega)) q⟩
  | succ n ih =>
    intro s hn h1 h2 h3
    have hc := ch_lt hM.1 (j := s - 1) (by omega)
    refine w_X10_bodyPlain_66 X hd hQ ⟨fun q => absurd q (nI_ge (by omega) (by omega)), fun _ => ⟨isO21, ?_⟩⟩
    rw [show gx_r u 21 4 = 30 from hf 21 4 (by decide) (by decide), nsub (a := s) (b := 1) (by omega) (B := 1) rfl, nI_clamp (by omega), hM.2 (s - 1) (by omega)]
    refine ⟨isA30.r, in30 (by omega), i_X10_isWhite hc ⟨fun q => ?_, fun q => ?_⟩⟩
    · rw [b2_0] at q
      have := h s h1 h2 h3 (fun _ => q)
      rw [decide_eq_true (by omega)] at this
      exact ⟨fun q => absurd q (nI_ge (by omega) (by omega)), fun _ => this⟩
    · have q := b2_n0 q
      rintro x8 rfl
      rw [show nI s + (-1) = nI (s - 1) by
        rw [show s = (s - 1) + 1 by omega, ← nI_1, Nat.add_sub_cancel, Int32.add_assoc]; exact Int32.add_zero _]
      refine ih (s - 1) (by omega) (by omega) (by omega) (fun j x y => ?_)
      by_cases ej : j = s - 1
      · rw [ej]; exact q
      · exact h3 j (by omega) y
theorem lp109 {E : gx_E} (X : gx_X E cX10_bodyPlain 9 RX10 none) (hd : 2 ≤ ex_d E) {post : gx_S → Prop} (hQ : ex_Q E = va_Qv post (gx_B (ex_Z E)) (gx_A (ex_Z E))) {t a e s : Nat} {last : Nat} {M : List Nat} {rel : Bool} {u0 : gx_S} {B : List Nat} (hf0 : mfix t u0) (hM : rdb M (gx_a u0 30)) (hMl : M.length ≤ 2000) (ha : 1 ≤ a) (hae : a < e) (hse : s ≤ e) (he : e ≤ M.length) (h10 : ∀ j, a ≤ j → j < s → ch M j ≠ 10) (hsw : a < s → rel = true → isW (ch M (s - 1)) = false)
    (ht : ∀ nl O, bdF M rel (M.length - s) s nl false O = bdF M rel (M.length - e) e (nl + 1) false O)
    (h : ∀ (O : List Nat) (nl last' : Nat) (u : gx_S), exG [37] [(22, 1)] u0 u → O.length + nl ≤ 2 * e → 1 ≤ nl → last' = (if O = [] then 0 else O.length + 1) → txt u 22 37 (O ++ List.replicate nl 10) → bodyE rel (bdF M rel (M.length - e) e nl false O) = B → J_X10_bodyPlain_15 E 21 (b2 rel) (nI last') (nI e) u) :
    ∀ (n k nl : Nat) (w : Bool) (O : List Nat) (u : gx_S), s - k = n → a ≤ k → k ≤ s → exG [37] [(22, 1)] u0 u → O.length + nl + (ws w).length ≤ a + k → w = (rel && decide (a < k) && isW (ch M (k - 1))) → (a < k → w = false → nl = 0 ∧ O ≠ []) → (k = a → last = if O = [] then 0 else O.length + 1) → txt u 22 37 (O ++ List.replicate nl 10 ++ ws w) → bodyE rel (bdF M rel (M.length - k) k nl w O) = B → J_X10_bodyPlain_109 E 21 (b2 rel) (nI last) (nI a) (nI e) (nI s) (b2 (decide (a < s))) (nI k) u := by
  intro n
  induction n with
  | zero =>
    intro k nl w O u hn h1 h2 hx hl hw h3 h4 hP hB
    have ek : k = s := by omega
    subst ek
    have hf := exG_mfix hx hf0
    have hw0 : w = false := by
      rw [hw]
      by_cases z : a < k
      · cases rel with
        | false => rfl
        | true => rw [hsw z rfl]; simp
      · rw [decide_eq_false z]; simp
    subst hw0
    simp only [ws, Bool.false_eq_true, if_false, List.append_nil, List.length_nil] at hP hl
    refine w_X10_bodyPlain_109 X hd hQ ⟨fun _ => ⟨isO21, ?_⟩, fun q => absurd (nI_le (by omega) (by omega)) q⟩
    rw [show gx_r u 21 15 = 22 from hf 21 15 (by decide) (by decide)]
    refine ⟨isO22, a22 hf (by simp; omega) hP (c := 10) (by omega) (by decide) (fun v xv mv => ?_)⟩
    rw [show O ++ List.replicate nl 10 ++ [10] = O ++ List.replicate (nl + 1) 10 by rw [List.replicate_succ', List.append_assoc]] at mv
    rw [ht] at hB
    have hg := exG_mfix xv hf
    by_cases z : a < k
    · obtain ⟨hz1, hz2⟩ := h3 z rfl
      subst hz1
      refine ⟨fun q => absurd q (by rw [decide_eq_true z]; decide), fun _ => ?_⟩
      rw [show gx_r v 21 15 = 22 from hg 21 15 (by decide) (by decide)]
      refine ⟨isO22, ?_⟩
      rintro x5 rfl
      rw [mv.1]
      refine h O (0 + 1) _ v (exG_tr hx xv) (by omega) (by omega) ?_ mv hB
      rw [if_neg hz2]
      simp
    · refine ⟨fun _ => h O (nl + 1) last v (exG_tr hx xv) (by omega) (by omega) (h4 (by omega)) mv hB, fun q => absurd (by rw [decide_eq_false z]; rfl) q⟩
  | succ n ih =>
    intro k nl w O u hn h1 h2 hx hl hw h3 h4 hP hB
    have hf := exG_mfix hx hf0
    have hM1 : rdb M (gx_a u 30) := by rw [hx.2.2 30 (by decide)]; exact hM
    have hc := ch_lt hM.1 (j := k) (by omega)
    have hc1 := ch_lt hM.1 (j := k - 1) (by omega)
    have hwl : (ws w).length ≤ 1 := by unfold ws; split <;> simp
    have hne := h10 k h1 (by omega)
    have e1 : M.length - k = (M.length - (k + 1)) + 1 := by omega
    have r4 : gx_r u 21 4 = 30 := hf 21 4 (by decide) (by decide)
    have r15 : gx_r u 21 15 = 22 := hf 21 15 (by decide) (by decide)
    have hput : (rel && isW (ch M k)) = false → S_X9_add u 22 (sb_b (ch M k)) (fun u15 => ∀ x16 : Int32, x16 = nI k + 1 → J_X10_bodyPlain_109 E 21 (b2 rel) (nI last) (nI a) (nI e) (nI s) (b2 (decide (a < s))) x16 u15) := fun hr => by
      refine a22 hf (by simp; omega) hP hc (byte_sb hc) (fun v xv mv => ?_)
      rintro x rfl
      rw [nI_1]
      rw [e1] at hB
      unfold bdF at hB
      rw [if_neg hne, if_neg (by rw [hr]; decide)] at hB
      refine ih (k + 1) 0 false (O ++ List.replicate nl 10 ++ ws w ++ [ch M k]) v (by omega) (by omega) (by omega) (exG_tr hx xv) ?_ ?_ (fun _ _ => ⟨rfl, by simp⟩) (fun z => by omega) (by simpa [ws] using mv) (by simpa [ws] using hB)
      · simp only [List.length_append, List.length_replicate, List.length_cons, List.length_nil, ws, Bool.false_eq_true, if_false]
        unfold ws at hl
        omega
      · rw [Nat.add_sub_cancel, decide_eq_true (show a < k + 1 by omega)]
        simpa using hr.symm
    refine w_X10_bodyPlain_109 X hd hQ ⟨fun q => absurd q (nI_ge (by omega) (by omega)), fun _ => ⟨isO21, ?_⟩⟩
    rw [r4, nI_clamp (by omega), hM1.2 k (by omega)]
    refine ⟨isA30.r, in30 (by omega), i_X10_isWhite hc ⟨fun q => ?_, fun q => ⟨fun q2 => ?_, fun q2 => ?_⟩⟩⟩
    · rw [b2_0] at q
      rw [r4, r15, hM1.2 k (by omega)]
      exact ⟨isA30.r, in30 (by omega), isO22, hput (by rw [q]; rfl)⟩
    · have q := b2_n0 q
      have q2 := b2_n0 q2
      subst q
      rw [e1] at hB
      unfold bdF at hB
      rw [if_neg hne, if_pos (by rw [q2]; rfl)] at hB
      have hsp : w = false → S_X9_add u 22 32 (fun u15 => ∀ x16 : Int32, x16 = nI k + 1 → J_X10_bodyPlain_109 E 21 (b2 true) (nI last) (nI a) (nI e) (nI s) (b2 (decide (a < s))) x16 u15) := fun hr => by
        subst hr
        refine a22 hf (by simp; omega) hP (c := 32) (by omega) (by decide) (fun v xv mv => ?_)
        rintro x rfl
        rw [nI_1]
        refine ih (k + 1) nl true O v (by omega) (by omega) (by omega) (exG_tr hx xv) ?_ ?_ (fun _ z => absurd z (by decide)) (fun z => by omega) (by simpa [ws] using mv) hB
        · simp [ws] at hl ⊢; omega
        · rw [Nat.add_sub_cancel, decide_eq_true (show a < k + 1 by omega), q2]; rfl
      rw [r4, nsub (a := k) (b := 1) (by omega) (B := 1) rfl, nI_clamp (by omega), hM1.2 (k - 1) (by omega)]
      refine ⟨isA30.r, in30 (by omega), i_X10_isWhite hc1 ⟨fun q3 => ?_, fun q3 => ⟨fun q4 => ?_, fun q4 => ?_⟩⟩⟩
      · rw [b2_0] at q3
        rw [r15]
        exact ⟨isO22, hsp (by rw [hw, q3]; simp)⟩
      · have q3 := b2_n0 q3
        have q4 : k ≠ a := fun z => q4 (by rw [z])
        have hw1 : w = true := by rw [hw, q3, decide_eq_true (show a < k by omega)]; rfl
        subst hw1
        rintro x rfl
        rw [nI_1]
        refine ih (k + 1) nl true O u (by omega) (by omega) (by omega) hx (by omega) ?_ (fun _ z => absurd z (by decide)) (fun z => by omega) hP hB
        rw [Nat.add_sub_cancel, decide_eq_true (show a < k + 1 by omega), q2]; rfl
      · have q4 : k = a := (nI_eq (by omega) (by omega)).mp q4
        rw [r15]
        exact ⟨isO22, hsp (by rw [hw, decide_eq_false (show ¬ a < k by omega)]; simp)⟩
    · rw [b2_0] at q2
      rw [r4, r15, hM1.2 k (by omega)]
      exact ⟨isA30.r, in30 (by omega), isO22, hput (by rw [q2]; simp)⟩
theorem lpb15 {E : gx_E} (X : gx_X E cX10_bodyPlain 9 RX10 none) (hd : 2 ≤ ex_d E) {post : gx_S → Prop} (hQ : ex_Q E = va_Qv post (gx_B (ex_Z E)) (gx_A (ex_Z E))) {t : Nat} {M : List Nat} {rel : Bool} {u0 : gx_S} {B : List Nat} (hf0 : mfix t u0) (hM : rdb M (gx_a u0 30)) (hMl : M.length ≤ 2000) (hMn : gx_i u0 21 13 = nI M.length) (h : ∀ v, exG [37] [(22, 1)] u0 v → txt v 22 37 B → post v) :
    ∀ (n a nl last : Nat) (O : List Nat) (u : gx_S), M.length - a ≤ n → a ≤ M.length → (a < M.length → 1 ≤ a) → exG [37] [(22, 1)] u0 u → O.length + nl ≤ 2 * a → (O = [] ∨ 1 ≤ nl) → last = (if O = [] then 0 else O.length + 1) → txt u 22 37 (O ++ List.replicate nl 10) → bodyE rel (bdF M rel (M.length - a) a nl false O) = B → J_X10_bodyPlain_15 E 21 (b2 rel) (nI last) (nI a) u := by
  intro n
  induction n with
  | zero =>
    intro a nl last O u hn ha ha1 hx hl hnl hla hP hB
    have ea : a = M.length := by omega
    have hf := exG_mfix hx hf0
    refine w_X10_bodyPlain_15 X hd hQ ⟨isO21, ?_⟩
    rw [hx.1 21 13 (by decide), hMn, show gx_r u 21 15 = 22 from hf 21 15 (by decide) (by decide)]
    refine ⟨fun _ => ⟨isO22, fun u3 e3 => ?_⟩, fun q => absurd (nI_le (by omega) (by omega)) q⟩
    have x3 : exG [37] [(22, 1)] u u3 := by rw [e3]; exact exG_pi _ _ (by simp)
    have hB2 : bodyE rel O = B := by rw [← hB, ea, Nat.sub_self]; rfl
    have hla2 : last ≤ (O ++ List.replicate nl 10).length := by
      rw [hla]
      split
      · omega
      · rename_i z
        have : 1 ≤ nl := by rcases hnl with hnl | hnl; exact absurd hnl z; exact hnl
        simp; omega
    have t3 : txt u3 22 37 ((O ++ List.replicate nl 10).take last) := by rw [e3]; exact txt_cut hP hla2
    have hf3 := exG_mfix x3 hf
    by_cases z : O = []
    · subst z
      rw [if_pos rfl] at hla
      subst hla
      refine ⟨fun q => absurd rfl q, fun _ => ⟨fun q => ?_, fun q => ?_⟩⟩
      · have q := b2_n0 q
        subst q
        refine h u3 (exG_tr hx x3) ?_
        rw [← hB2]
        exact t3
      · rw [b2_0] at q
        subst q
        rw [show gx_r u3 21 15 = 22 from hf3 21 15 (by decide) (by decide)]
        refine ⟨isO22, a22 hf3 (by simp) t3 (c := 10) (by omega) (by decide) (fun v xv mv => h v (exG_tr hx (exG_tr x3 xv)) ?_)⟩
        rw [← hB2]
        exact mv
    · rw [if_neg z] at hla
      have hnl1 : 1 ≤ nl := by rcases hnl with hnl | hnl; exact absurd hnl z; exact hnl
      have ht : (O ++ List.replicate nl 10).take last = O ++ [10] := by
        rw [hla, List.take_append, List.take_of_length_le (by omega), show O.length + 1 - O.length = 1 by omega, show nl = (nl - 1) + 1 by omega]
        rfl
      have hb : bodyE rel O = O ++ [10] := by
        unfold bodyE
        rw [if_neg]
        have : O.length ≠ 0 := fun e => z (List.eq_nil_of_length_eq_zero e)
        simp [this]
      refine ⟨fun _ => h u3 (exG_tr hx x3) (by rw [← hB2, hb, ← ht]; exact t3), fun q => absurd q ?_⟩
      intro q
      have := (nI_eq (b := 0) (by omega) (by omega)).mp q
      omega
  | succ n ih =>
    intro a nl last O u hn ha ha1 hx hl hnl hla hP hB
    by_cases ea : a = M.length
    · exact ih a nl last O u (by omega) ha ha1 hx hl hnl hla hP hB
    have hal : a < M.length := by omega
    have hf := exG_mfix hx hf0
    have hM1 : rdb M (gx_a u 30) := by rw [hx.2.2 30 (by decide)]; exact hM
    obtain ⟨b1, b2', b3, b4⟩ := le_ok hal
    have hc := ch_lt hM.1 (j := le_ M a - 1) (by omega)
    have r4 : gx_r u 21 4 = 30 := hf 21 4 (by decide) (by decide)
    have key : ∀ s, a ≤ s → s ≤ le_ M a → (∀ j, a ≤ j → j < s → ch M j ≠ 10) → (a < s → rel = true → isW (ch M (s - 1)) = false) → ((s < le_ M a ∧ ch M (le_ M a - 1) = 10 ∧ ∀ j, s ≤ j → j < le_ M a - 1 → rel = true ∧ isW (ch M j) = true) ∨ (le_ M a = M.length ∧ ∀ j, s ≤ j → j < le_ M a → rel = true ∧ isW (ch M j) = true)) → J_X10_bodyPlain_109 E 21 (b2 rel) (nI last) (nI a) (nI (le_ M a)) (nI s) (b2 (decide (a < s))) (nI a) u := fun s s1 s2 s3 s4 s5 => by
      refine lp109 X hd hQ hf0 hM hMl (ha1 hal) b1 s2 b2' s3 s4 (fun nl O => bdF_tail b2' s2 s5 nl O) (fun O' nl' l' u' x' q1 q2 q3 q4 q5 => ?_) (s - a) a nl false O u rfl (Nat.le_refl _) s1 hx (by simp [ws]; omega) (by simp) (fun z => absurd z (by omega)) (fun _ => hla) (by simpa [ws] using hP) hB
      exact ih (le_ M a) nl' l' O' u' (by omega) b2' (by omega) x' q1 (Or.inr q2) q3 q4 q5
    have fin : ∀ s, a ≤ s → (b2 rel = 0 → J_X10_bodyPlain_109 E 21 (b2 rel) (nI last) (nI a) (nI (le_ M a)) (nI s) (b2 (decide (a < s))) (nI a) u) → s ≤ M.length → (b2 rel = 0 → (nI s ≤ nI a → J_X10_bodyPlain_109 E 21 (b2 rel) (nI last) (nI a) (nI (le_ M a)) (nI s) 0 (nI a) u) ∧ (¬ nI s ≤ nI a → J_X10_bodyPlain_109 E 21 (b2 rel) (nI last) (nI a) (nI (le_ M a)) (nI s) 1 (nI a) u)) := fun s s1 s2 s3 q => by
      have := s2 q
      rw [nI_leI (by omega) (by omega)]
      refine ⟨fun q2 => ?_, fun q2 => ?_⟩
      · rw [decide_eq_false (by omega)] at this; exact this
      · rw [decide_eq_true (by omega)] at this; exact this
    refine w_X10_bodyPlain_15 X hd hQ ⟨isO21, ?_⟩
    rw [hx.1 21 13 (by decide), hMn]
    refine ⟨fun q => absurd q (nI_ge (by omega) (by omega)), fun _ => ?_⟩
    rw [r4]
    refine ⟨M, a, isA30.r, by show M.length ≤ 2000; omega, by omega, hM1, ha, rfl, rfl, ?_⟩
    dsimp only
    rw [r4, nsub (a := le_ M a) (b := 1) (by omega) (B := 1) rfl, nI_clamp (by omega), hM1.2 _ (by omega), show (10 : Int32) = nI 10 from rfl, sb_eq hc (by omega)]
    refine ⟨isA30.r, in30 (by omega), fun q => ?_, fun q => ?_⟩
    · have b5 : le_ M a = M.length ∧ ∀ j, a ≤ j → j < M.length → ch M j ≠ 10 := by
        rcases b4 with b4 | b4
        · exact absurd b4 q
        · exact b4
      refine ⟨fin (le_ M a) (by omega) (fun q2 => ?_) b2', fun q2 => ?_⟩
      · rw [b2_0] at q2
        subst q2
        exact key (le_ M a) (by omega) (Nat.le_refl _) (fun j x y => b5.2 j x (by omega)) (fun _ z => absurd z (by decide)) (Or.inr ⟨b5.1, fun j x y => by omega⟩)
      · have q2 := b2_n0 q2
        subst q2
        refine st66 X hd hQ hf hM1 hMl b2' (fun s s1 s2 s3 s4 => ?_) _ (le_ M a) rfl (by omega) (Nat.le_refl _) (fun j x y => by omega)
        exact key s s1 s2 (fun j x y => b5.2 j x (by omega)) (fun z _ => s4 z) (Or.inr ⟨b5.1, fun j x y => ⟨rfl, s3 j x y⟩⟩)
    · rintro x14 rfl
      refine ⟨fin (le_ M a - 1) (by omega) (fun q2 => ?_) (by omega), fun q2 => ?_⟩
      · rw [b2_0] at q2
        subst q2
        exact key (le_ M a - 1) (by omega) (by omega) (fun j x y => b3 j x (by omega)) (fun _ z => absurd z (by decide)) (Or.inl ⟨by omega, q, fun j x y => by omega⟩)
      · have q2 := b2_n0 q2
        subst q2
        refine st66 X hd hQ hf hM1 hMl (show le_ M a - 1 ≤ M.length by omega) (fun s s1 s2 s3 s4 => ?_) _ (le_ M a - 1) rfl (by omega) (Nat.le_refl _) (fun j x y => by omega)
        exact key s s1 (by omega) (fun j x y => b3 j x (by omega)) (fun z _ => s4 z) (Or.inl ⟨by omega, q, fun j x y => ⟨rfl, s3 j x y⟩⟩)
theorem w_X10_bodyPlain {E : gx_E} (X : gx_X E cX10_bodyPlain 9 RX10 none) (hd : 2 ≤ ex_d E) {post : gx_S → Prop} (hQ : ex_Q E = va_Qv post (gx_B (ex_Z E)) (gx_A (ex_Z E))) {u : gx_S} {v0 : Nat} {v1 : Int32} (h : S_X10_bodyPlain u v0 v1 post) : gx_Wc E 9 0 [(0, .ref (ex_ad E v0)), (1, .int v1)] [] u := by
  obtain ⟨rfl, t, k, M, rel, hf, hm, hk, rfl, h⟩ := h
  rcases hm with hm | ⟨_, m1, m2, m3, m4, m5, m6, m7, m8⟩
  · exact absurd hm.1 hk
  refine w_X10_bodyPlain_0 X hd hQ ⟨isO21, ?_⟩
  rw [show gx_r u 21 15 = 22 from hf 21 15 (by decide) (by decide)]
  refine ⟨isO22, fun u3 e3 => ?_⟩
  have x3 : exG [37] [(22, 1)] u u3 := by rw [e3]; exact exG_pi _ _ (by simp)
  rintro x4 rfl
  rw [x3.1 21 12 (by decide), m7]
  have hp := plc_le M k
  have hb : bdy M k ≤ M.length := by unfold bdy; split <;> omega
  refine lpb15 X hd hQ (u0 := u3) (B := bodyO M rel (plc M k + 1)) (exG_mfix x3 hf) (by rw [x3.2.2 30 (by decide)]; exact m4) m5 (by rw [x3.1 21 13 (by decide)]; exact m6) (fun v xv mv => h v (exG_tr x3 xv) mv) _ (bdy M k) 0 0 [] u3 (Nat.le_refl _) hb (fun z => ?_) (exG_rf _ _ _) (by simp) (Or.inl rfl) rfl ?_ ?_
  · unfold bdy at z ⊢
    split
    · omega
    · rename_i z2; rw [if_neg z2] at z; omega
  · rw [e3]; exact ⟨by rw [gx_i_pi, if_pos ⟨rfl, rfl⟩]; rfl, rdb_nil _⟩
  · unfold bodyO bdy
    split
    · rfl
    · rw [show M.length - (plc M k + 1) = 0 by omega, Nat.sub_self]
      rfl
theorem c_X10_bodyPlain {l : Launch} {Z : gx_Z} {u : gx_S} {v0 : Nat} {v1 : Int32} {post : gx_S → Prop} (h : S_X10_bodyPlain u v0 v1 post) : Met l yX10_bodyPlain (Cond.code yX10_bodyPlain cX10_bodyPlain 9 none :: gx_TB) (gx_rm 2) (gx_Pre Z u [.ref (Z.2.1 v0), .int v1]) (va_Qv post (gx_B Z) (gx_A Z)) 0 0 (gx_A Z) := by
  refine gx_met (by decide +kernel) (Nat.le_of_ble_eq_true rfl) ?_
  intro E X hZ hQ hD hL
  subst hZ
  exact w_X10_bodyPlain X (Nat.le_of_eq hD.symm) hQ h

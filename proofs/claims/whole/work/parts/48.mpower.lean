-- PlainSealModel.power()I
theorem dX10_power_0 : decode cX10_power 0 = .ok (.aload_n 0, 1) := by decide +kernel
theorem dX10_power_1 : decode cX10_power 1 = .ok (.invokevirtual 112, 3) := by decide +kernel
theorem dX10_power_4 : decode cX10_power 4 = .ok (.sipush 128, 3) := by decide +kernel
theorem dX10_power_7 : decode cX10_power 7 = .ok (.if_icmp .ne 25, 3) := by decide +kernel
theorem dX10_power_10 : decode cX10_power 10 = .ok (.aload_n 0, 1) := by decide +kernel
theorem dX10_power_11 : decode cX10_power 11 = .ok (.getfield 13, 3) := by decide +kernel
theorem dX10_power_14 : decode cX10_power 14 = .ok (.bipush 64, 2) := by decide +kernel
theorem dX10_power_16 : decode cX10_power 16 = .ok (.baload, 1) := by decide +kernel
theorem dX10_power_17 : decode cX10_power 17 = .ok (.ifCond .ge 15, 3) := by decide +kernel
theorem dX10_power_20 : decode cX10_power 20 = .ok (.aload_n 0, 1) := by decide +kernel
theorem dX10_power_21 : decode cX10_power 21 = .ok (.getfield 13, 3) := by decide +kernel
theorem dX10_power_24 : decode cX10_power 24 = .ok (.bipush 127, 2) := by decide +kernel
theorem dX10_power_26 : decode cX10_power 26 = .ok (.baload, 1) := by decide +kernel
theorem dX10_power_27 : decode cX10_power 27 = .ok (.iconst 1, 1) := by decide +kernel
theorem dX10_power_28 : decode cX10_power 28 = .ok (.iand, 1) := by decide +kernel
theorem dX10_power_29 : decode cX10_power 29 = .ok (.ifCond .ne 5, 3) := by decide +kernel
theorem dX10_power_32 : decode cX10_power 32 = .ok (.iconst (-1), 1) := by decide +kernel
theorem dX10_power_33 : decode cX10_power 33 = .ok (.ireturn, 1) := by decide +kernel
theorem dX10_power_34 : decode cX10_power 34 = .ok (.aload_n 0, 1) := by decide +kernel
theorem dX10_power_35 : decode cX10_power 35 = .ok (.getfield 13, 3) := by decide +kernel
theorem dX10_power_38 : decode cX10_power 38 = .ok (.iconst 0, 1) := by decide +kernel
theorem dX10_power_39 : decode cX10_power 39 = .ok (.aload_n 0, 1) := by decide +kernel
theorem dX10_power_40 : decode cX10_power 40 = .ok (.getfield 89, 3) := by decide +kernel
theorem dX10_power_43 : decode cX10_power 43 = .ok (.iconst 0, 1) := by decide +kernel
theorem dX10_power_44 : decode cX10_power 44 = .ok (.bipush 64, 2) := by decide +kernel
theorem dX10_power_46 : decode cX10_power 46 = .ok (.invokestatic 134, 3) := by decide +kernel
theorem dX10_power_49 : decode cX10_power 49 = .ok (.aload_n 0, 1) := by decide +kernel
theorem dX10_power_50 : decode cX10_power 50 = .ok (.getfield 13, 3) := by decide +kernel
theorem dX10_power_53 : decode cX10_power 53 = .ok (.bipush 64, 2) := by decide +kernel
theorem dX10_power_55 : decode cX10_power 55 = .ok (.aload_n 0, 1) := by decide +kernel
theorem dX10_power_56 : decode cX10_power 56 = .ok (.getfield 92, 3) := by decide +kernel
theorem dX10_power_59 : decode cX10_power 59 = .ok (.iconst 0, 1) := by decide +kernel
theorem dX10_power_60 : decode cX10_power 60 = .ok (.bipush 64, 2) := by decide +kernel
theorem dX10_power_62 : decode cX10_power 62 = .ok (.invokestatic 134, 3) := by decide +kernel
theorem dX10_power_65 : decode cX10_power 65 = .ok (.aload_n 0, 1) := by decide +kernel
theorem dX10_power_66 : decode cX10_power 66 = .ok (.getfield 92, 3) := by decide +kernel
theorem dX10_power_69 : decode cX10_power 69 = .ok (.aload_n 0, 1) := by decide +kernel
theorem dX10_power_70 : decode cX10_power 70 = .ok (.getfield 71, 3) := by decide +kernel
theorem dX10_power_73 : decode cX10_power 73 = .ok (.invokestatic 235, 3) := by decide +kernel
theorem dX10_power_76 : decode cX10_power 76 = .ok (.aload_n 0, 1) := by decide +kernel
theorem dX10_power_77 : decode cX10_power 77 = .ok (.getfield 89, 3) := by decide +kernel
theorem dX10_power_80 : decode cX10_power 80 = .ok (.aload_n 0, 1) := by decide +kernel
theorem dX10_power_81 : decode cX10_power 81 = .ok (.getfield 77, 3) := by decide +kernel
theorem dX10_power_84 : decode cX10_power 84 = .ok (.invokestatic 235, 3) := by decide +kernel
theorem dX10_power_87 : decode cX10_power 87 = .ok (.aload_n 0, 1) := by decide +kernel
theorem dX10_power_88 : decode cX10_power 88 = .ok (.aload_n 0, 1) := by decide +kernel
theorem dX10_power_89 : decode cX10_power 89 = .ok (.getfield 77, 3) := by decide +kernel
theorem dX10_power_92 : decode cX10_power 92 = .ok (.bipush 32, 2) := by decide +kernel
theorem dX10_power_94 : decode cX10_power 94 = .ok (.aload_n 0, 1) := by decide +kernel
theorem dX10_power_95 : decode cX10_power 95 = .ok (.getfield 74, 3) := by decide +kernel
theorem dX10_power_98 : decode cX10_power 98 = .ok (.invokevirtual 227, 3) := by decide +kernel
theorem dX10_power_101 : decode cX10_power 101 = .ok (.aload_n 0, 1) := by decide +kernel
theorem dX10_power_102 : decode cX10_power 102 = .ok (.getfield 74, 3) := by decide +kernel
theorem dX10_power_105 : decode cX10_power 105 = .ok (.iconst 0, 1) := by decide +kernel
theorem dX10_power_106 : decode cX10_power 106 = .ok (.aload_n 0, 1) := by decide +kernel
theorem dX10_power_107 : decode cX10_power 107 = .ok (.getfield 77, 3) := by decide +kernel
theorem dX10_power_110 : decode cX10_power 110 = .ok (.iconst 0, 1) := by decide +kernel
theorem dX10_power_111 : decode cX10_power 111 = .ok (.bipush 33, 2) := by decide +kernel
theorem dX10_power_113 : decode cX10_power 113 = .ok (.invokestatic 134, 3) := by decide +kernel
theorem dX10_power_116 : decode cX10_power 116 = .ok (.iconst 0, 1) := by decide +kernel
theorem dX10_power_117 : decode cX10_power 117 = .ok (.istore_n 1, 1) := by decide +kernel
theorem dX10_power_118 : decode cX10_power 118 = .ok (.iload_n 1, 1) := by decide +kernel
theorem dX10_power_119 : decode cX10_power 119 = .ok (.bipush 16, 2) := by decide +kernel
theorem dX10_power_121 : decode cX10_power 121 = .ok (.if_icmp .ge 32, 3) := by decide +kernel
theorem dX10_power_124 : decode cX10_power 124 = .ok (.aload_n 0, 1) := by decide +kernel
theorem dX10_power_125 : decode cX10_power 125 = .ok (.getfield 74, 3) := by decide +kernel
theorem dX10_power_128 : decode cX10_power 128 = .ok (.iconst 0, 1) := by decide +kernel
theorem dX10_power_129 : decode cX10_power 129 = .ok (.aload_n 0, 1) := by decide +kernel
theorem dX10_power_130 : decode cX10_power 130 = .ok (.getfield 83, 3) := by decide +kernel
theorem dX10_power_133 : decode cX10_power 133 = .ok (.iconst 0, 1) := by decide +kernel
theorem dX10_power_134 : decode cX10_power 134 = .ok (.bipush 33, 2) := by decide +kernel
theorem dX10_power_136 : decode cX10_power 136 = .ok (.invokestatic 134, 3) := by decide +kernel
theorem dX10_power_139 : decode cX10_power 139 = .ok (.aload_n 0, 1) := by decide +kernel
theorem dX10_power_140 : decode cX10_power 140 = .ok (.aload_n 0, 1) := by decide +kernel
theorem dX10_power_141 : decode cX10_power 141 = .ok (.getfield 83, 3) := by decide +kernel
theorem dX10_power_144 : decode cX10_power 144 = .ok (.invokevirtual 239, 3) := by decide +kernel
theorem dX10_power_147 : decode cX10_power 147 = .ok (.iinc 1 1, 3) := by decide +kernel
theorem dX10_power_150 : decode cX10_power 150 = .ok (.goto (-32), 3) := by decide +kernel
theorem dX10_power_153 : decode cX10_power 153 = .ok (.aload_n 0, 1) := by decide +kernel
theorem dX10_power_154 : decode cX10_power 154 = .ok (.aload_n 0, 1) := by decide +kernel
theorem dX10_power_155 : decode cX10_power 155 = .ok (.getfield 77, 3) := by decide +kernel
theorem dX10_power_158 : decode cX10_power 158 = .ok (.invokevirtual 239, 3) := by decide +kernel
theorem dX10_power_161 : decode cX10_power 161 = .ok (.iconst 0, 1) := by decide +kernel
theorem dX10_power_162 : decode cX10_power 162 = .ok (.istore_n 1, 1) := by decide +kernel
theorem dX10_power_163 : decode cX10_power 163 = .ok (.iload_n 1, 1) := by decide +kernel
theorem dX10_power_164 : decode cX10_power 164 = .ok (.bipush 64, 2) := by decide +kernel
theorem dX10_power_166 : decode cX10_power 166 = .ok (.if_icmp .ge 37, 3) := by decide +kernel
theorem dX10_power_169 : decode cX10_power 169 = .ok (.aload_n 0, 1) := by decide +kernel
theorem dX10_power_170 : decode cX10_power 170 = .ok (.getfield 17, 3) := by decide +kernel
theorem dX10_power_173 : decode cX10_power 173 = .ok (.iload_n 1, 1) := by decide +kernel
theorem dX10_power_174 : decode cX10_power 174 = .ok (.aload_n 0, 1) := by decide +kernel
theorem dX10_power_175 : decode cX10_power 175 = .ok (.getfield 74, 3) := by decide +kernel
theorem dX10_power_178 : decode cX10_power 178 = .ok (.bipush 63, 2) := by decide +kernel
theorem dX10_power_180 : decode cX10_power 180 = .ok (.iload_n 1, 1) := by decide +kernel
theorem dX10_power_181 : decode cX10_power 181 = .ok (.isub, 1) := by decide +kernel
theorem dX10_power_182 : decode cX10_power 182 = .ok (.iconst 2, 1) := by decide +kernel
theorem dX10_power_183 : decode cX10_power 183 = .ok (.idiv, 1) := by decide +kernel
theorem dX10_power_184 : decode cX10_power 184 = .ok (.iaload, 1) := by decide +kernel
theorem dX10_power_185 : decode cX10_power 185 = .ok (.bipush 8, 2) := by decide +kernel
theorem dX10_power_187 : decode cX10_power 187 = .ok (.bipush 63, 2) := by decide +kernel
theorem dX10_power_189 : decode cX10_power 189 = .ok (.iload_n 1, 1) := by decide +kernel
theorem dX10_power_190 : decode cX10_power 190 = .ok (.isub, 1) := by decide +kernel
theorem dX10_power_191 : decode cX10_power 191 = .ok (.iconst 2, 1) := by decide +kernel
theorem dX10_power_192 : decode cX10_power 192 = .ok (.irem, 1) := by decide +kernel
theorem dX10_power_193 : decode cX10_power 193 = .ok (.imul, 1) := by decide +kernel
theorem dX10_power_194 : decode cX10_power 194 = .ok (.ishr, 1) := by decide +kernel
theorem dX10_power_195 : decode cX10_power 195 = .ok (.i2b, 1) := by decide +kernel
theorem dX10_power_196 : decode cX10_power 196 = .ok (.bastore, 1) := by decide +kernel
theorem dX10_power_197 : decode cX10_power 197 = .ok (.iinc 1 1, 3) := by decide +kernel
theorem dX10_power_200 : decode cX10_power 200 = .ok (.goto (-37), 3) := by decide +kernel
theorem dX10_power_203 : decode cX10_power 203 = .ok (.aload_n 0, 1) := by decide +kernel
theorem dX10_power_204 : decode cX10_power 204 = .ok (.bipush 64, 2) := by decide +kernel
theorem dX10_power_206 : decode cX10_power 206 = .ok (.putfield 166, 3) := by decide +kernel
theorem dX10_power_209 : decode cX10_power 209 = .ok (.bipush 64, 2) := by decide +kernel
theorem dX10_power_211 : decode cX10_power 211 = .ok (.ireturn, 1) := by decide +kernel
theorem hyX10_power : yX10_power.cls ≠ "java/lang/invoke/MethodHandle" ∧ yX10_power.cls ≠ "java/lang/invoke/VarHandle" ∧ (parseMethodDescriptor yX10_power.desc).map (fun d => d.parameters.length) = some 0 := by decide +kernel
abbrev J_X10_power_118 (E : gx_E) (v0 : Nat) (v1 : Int32) (u : gx_S) : Prop := gx_Wc E 2 118 [(0, .ref (ex_ad E v0)), (1, .int v1)] [] u
abbrev J_X10_power_163 (E : gx_E) (v0 : Nat) (v1 : Int32) (u : gx_S) : Prop := gx_Wc E 2 163 [(0, .ref (ex_ad E v0)), (1, .int v1)] [] u
set_option maxHeartbeats 4000000 in
set_option maxRecDepth 100000 in
theorem w_X10_power_0 {E : gx_E} (X : gx_X E cX10_power 2 RX10 (some .int)) (hd : 3 ≤ ex_d E) {post : Int32 → gx_S → Prop} (hQ : ex_Q E = va_Qi post (gx_B (ex_Z E)) (gx_A (ex_Z E))) {u : gx_S} {v0 : Nat} (h : (gx_isO v0 9 ∧ S_X10_used u v0 (fun (r3 : Int32) (u2 : gx_S) => ((¬ r3 = (128 : Int32) → post (-1 : Int32) u2) ∧ (r3 = (128 : Int32) → (gx_isR (gx_r u2 v0 0) .byte ∧ vp_in (64 : Int32) (gx_len (gx_r u2 v0 0)) ∧ ((0 ≤ (gx_a u2 (gx_r u2 v0 0) (64 : Int32).toNatClampNeg) → post (-1 : Int32) u2) ∧ (¬ 0 ≤ (gx_a u2 (gx_r u2 v0 0) (64 : Int32).toNatClampNeg) → (vp_in (127 : Int32) (gx_len (gx_r u2 v0 0)) ∧ ((¬ ((gx_a u2 (gx_r u2 v0 0) (127 : Int32).toNatClampNeg) &&& (1 : Int32)) = 0 → (gx_isA (gx_r u2 v0 26) .byte ∧ ¬ (0 : Int32) < 0 ∧ ¬ (0 : Int32) < 0 ∧ ¬ (64 : Int32) < 0 ∧ (0 : Int32).toNatClampNeg + (64 : Int32).toNatClampNeg ≤ gx_len (gx_r u2 v0 0) ∧ (0 : Int32).toNatClampNeg + (64 : Int32).toNatClampNeg ≤ gx_len (gx_r u2 v0 26) ∧ ∀ u13 : gx_S, u13 = gx_pa u2 (gx_r u2 v0 26) (va_cpy (gx_a u2 (gx_r u2 v0 0)) (gx_a u2 (gx_r u2 v0 26)) (0 : Int32).toNatClampNeg (0 : Int32).toNatClampNeg (64 : Int32).toNatClampNeg) → (gx_isR (gx_r u13 v0 0) .byte ∧ gx_isA (gx_r u13 v0 27) .byte ∧ ¬ (64 : Int32) < 0 ∧ ¬ (0 : Int32) < 0 ∧ ¬ (64 : Int32) < 0 ∧ (64 : Int32).toNatClampNeg + (64 : Int32).toNatClampNeg ≤ gx_len (gx_r u13 v0 0) ∧ (0 : Int32).toNatClampNeg + (64 : Int32).toNatClampNeg ≤ gx_len (gx_r u13 v0 27) ∧ ∀ u21 : gx_S, u21 = gx_pa u13 (gx_r u13 v0 27) (va_cpy (gx_a u13 (gx_r u13 v0 0)) (gx_a u13 (gx_r u13 v0 27)) (64 : Int32).toNatClampNeg (0 : Int32).toNatClampNeg (64 : Int32).toNatClampNeg) → (S_X10_digits u21 (gx_r u21 v0 27) (gx_r u21 v0 20) (fun (u22 : gx_S) => (S_X10_digits u22 (gx_r u22 v0 26) (gx_r u22 v0 22) (fun (u23 : gx_S) => (S_X10_remainder u23 v0 (gx_r u23 v0 22) (32 : Int32) (gx_r u23 v0 21) (fun (u24 : gx_S) => (gx_isR (gx_r u24 v0 21) .int ∧ gx_isA (gx_r u24 v0 22) .int ∧ ¬ (0 : Int32) < 0 ∧ ¬ (0 : Int32) < 0 ∧ ¬ (33 : Int32) < 0 ∧ (0 : Int32).toNatClampNeg + (33 : Int32).toNatClampNeg ≤ gx_len (gx_r u24 v0 21) ∧ (0 : Int32).toNatClampNeg + (33 : Int32).toNatClampNeg ≤ gx_len (gx_r u24 v0 22) ∧ ∀ u32 : gx_S, u32 = gx_pa u24 (gx_r u24 v0 22) (va_cpy (gx_a u24 (gx_r u24 v0 21)) (gx_a u24 (gx_r u24 v0 22)) (0 : Int32).toNatClampNeg (0 : Int32).toNatClampNeg (33 : Int32).toNatClampNeg) → J_X10_power_118 E v0 (0 : Int32) u32)))))))))) ∧ (((gx_a u2 (gx_r u2 v0 0) (127 : Int32).toNatClampNeg) &&& (1 : Int32)) = 0 → post (-1 : Int32) u2))))))))))) : gx_Wc E 2 0 [(0, .ref (ex_ad E v0))] [] u := by
  refine gx_aload_n X (j := 0) dX10_power_0 rfl rfl ?_
  obtain ⟨k1, h⟩ := h
  refine gx_ki (gx_rV X (c_X10_used h) (Nat.le_trans (by decide) hd) (Nat.le_trans (by decide) (Nat.mul_le_mul_left 40 hd)) k1 rfl mw_625 mw_627 mp_12 mw_7 mw_628 hyX10_used (As := []) (rest := []) rfl rfl (Nat.le_of_ble_eq_true rfl) dX10_power_1) (fun r3 u2 h => ?_)
  refine gx_sipush X (v := 128) dX10_power_4 (by decide) ?_
  refine gx_icmp_ne X (tgt := 32) dX10_power_7 (by decide) (fun c35 => ?_) (fun c35 => ?_)
  · replace h := h.1 c35
    refine gx_iconst X (v := -1) dX10_power_32 (by decide) ?_
    exact gx_iret X hQ h dX10_power_33
  · replace h := h.2 c35
    refine gx_aload_n X (j := 0) dX10_power_10 rfl rfl ?_
    refine gx_get X k1 rfl iwX10 0 (by decide) mw_521 (v := .ref (ex_ad E (gx_r u2 v0 0))) rfl dX10_power_11 ?_
    refine gx_bipush X (v := 64) dX10_power_14 (by decide) ?_
    obtain ⟨k4, h⟩ := h
    obtain ⟨k5, h⟩ := h
    refine gx_bald X k4 k5 dX10_power_16 ?_
    refine gx_if_ge X (tgt := 32) dX10_power_17 (by decide) (fun c34 => ?_) (fun c34 => ?_)
    · replace h := h.1 c34
      refine gx_iconst X (v := -1) dX10_power_32 (by decide) ?_
      exact gx_iret X hQ h dX10_power_33
    · replace h := h.2 c34
      refine gx_aload_n X (j := 0) dX10_power_20 rfl rfl ?_
      refine gx_get X k1 rfl iwX10 0 (by decide) mw_521 (v := .ref (ex_ad E (gx_r u2 v0 0))) rfl dX10_power_21 ?_
      refine gx_bipush X (v := 127) dX10_power_24 (by decide) ?_
      obtain ⟨k6, h⟩ := h
      refine gx_bald X k4 k6 dX10_power_26 ?_
      refine gx_iconst X (v := 1) dX10_power_27 (by decide) ?_
      refine gx_iand X dX10_power_28 ?_
      refine gx_if_ne X (tgt := 34) dX10_power_29 (by decide) (fun c33 => ?_) (fun c33 => ?_)
      · replace h := h.1 c33
        refine gx_aload_n X (j := 0) dX10_power_34 rfl rfl ?_
        refine gx_get X k1 rfl iwX10 0 (by decide) mw_521 (v := .ref (ex_ad E (gx_r u2 v0 0))) rfl dX10_power_35 ?_
        refine gx_iconst X (v := 0) dX10_power_38 (by decide) ?_
        refine gx_aload_n X (j := 0) dX10_power_39 rfl rfl ?_
        refine gx_get X k1 rfl iwX10 26 (by decide) mw_547 (v := .ref (ex_ad E (gx_r u2 v0 26))) rfl dX10_power_40 ?_
        refine gx_iconst X (v := 0) dX10_power_43 (by decide) ?_
        refine gx_bipush X (v := 64) dX10_power_44 (by decide) ?_
        obtain ⟨k7, h⟩ := h
        obtain ⟨k8, k9, k10, k11, k12, h⟩ := h
        refine gx_copy X (Nat.le_trans (by decide) hd) k4 k7 rfl k8 k9 k10 k11 k12 mw_648 mw_339 mw_338 mw_12 (Nat.le_of_ble_eq_true rfl) dX10_power_46 ?_
        refine gx_nams (fun u13 eu13 => ?_)
        replace h := h u13 eu13
        refine gx_aload_n X (j := 0) dX10_power_49 rfl rfl ?_
        refine gx_get X k1 rfl iwX10 0 (by decide) mw_521 (v := .ref (ex_ad E (gx_r u13 v0 0))) rfl dX10_power_50 ?_
        refine gx_bipush X (v := 64) dX10_power_53 (by decide) ?_
        refine gx_aload_n X (j := 0) dX10_power_55 rfl rfl ?_
        refine gx_get X k1 rfl iwX10 27 (by decide) mw_548 (v := .ref (ex_ad E (gx_r u13 v0 27))) rfl dX10_power_56 ?_
        refine gx_iconst X (v := 0) dX10_power_59 (by decide) ?_
        refine gx_bipush X (v := 64) dX10_power_60 (by decide) ?_
        obtain ⟨k14, h⟩ := h
        obtain ⟨k15, h⟩ := h
        obtain ⟨k16, k17, k18, k19, k20, h⟩ := h
        refine gx_copy X (Nat.le_trans (by decide) hd) k14 k15 rfl k16 k17 k18 k19 k20 mw_648 mw_339 mw_338 mw_12 (Nat.le_of_ble_eq_true rfl) dX10_power_62 ?_
        refine gx_nams (fun u21 eu21 => ?_)
        replace h := h u21 eu21
        refine gx_aload_n X (j := 0) dX10_power_65 rfl rfl ?_
        refine gx_get X k1 rfl iwX10 27 (by decide) mw_548 (v := .ref (ex_ad E (gx_r u21 v0 27))) rfl dX10_power_66 ?_
        refine gx_aload_n X (j := 0) dX10_power_69 rfl rfl ?_
        refine gx_get X k1 rfl iwX10 20 (by decide) mw_541 (v := .ref (ex_ad E (gx_r u21 v0 20))) rfl dX10_power_70 ?_
        refine gx_kv (gx_rS X (c_X10_digits h) (Nat.le_trans (by decide) hd) (Nat.le_trans (by decide) (Nat.mul_le_mul_left 40 hd)) mw_755 mw_756 mw_7 mw_757 hyX10_digits (As := [.ref (ex_ad E (gx_r u21 v0 27)), .ref (ex_ad E (gx_r u21 v0 20))]) (rest := []) rfl rfl (Nat.le_of_ble_eq_true rfl) dX10_power_73) (fun u22 h => ?_)
        refine gx_aload_n X (j := 0) dX10_power_76 rfl rfl ?_
        refine gx_get X k1 rfl iwX10 26 (by decide) mw_547 (v := .ref (ex_ad E (gx_r u22 v0 26))) rfl dX10_power_77 ?_
        refine gx_aload_n X (j := 0) dX10_power_80 rfl rfl ?_
        refine gx_get X k1 rfl iwX10 22 (by decide) mw_543 (v := .ref (ex_ad E (gx_r u22 v0 22))) rfl dX10_power_81 ?_
        refine gx_kv (gx_rS X (c_X10_digits h) (Nat.le_trans (by decide) hd) (Nat.le_trans (by decide) (Nat.mul_le_mul_left 40 hd)) mw_755 mw_756 mw_7 mw_757 hyX10_digits (As := [.ref (ex_ad E (gx_r u22 v0 26)), .ref (ex_ad E (gx_r u22 v0 22))]) (rest := []) rfl rfl (Nat.le_of_ble_eq_true rfl) dX10_power_84) (fun u23 h => ?_)
        refine gx_aload_n X (j := 0) dX10_power_87 rfl rfl ?_
        refine gx_aload_n X (j := 0) dX10_power_88 rfl rfl ?_
        refine gx_get X k1 rfl iwX10 22 (by decide) mw_543 (v := .ref (ex_ad E (gx_r u23 v0 22))) rfl dX10_power_89 ?_
        refine gx_bipush X (v := 32) dX10_power_92 (by decide) ?_
        refine gx_aload_n X (j := 0) dX10_power_94 rfl rfl ?_
        refine gx_get X k1 rfl iwX10 21 (by decide) mw_542 (v := .ref (ex_ad E (gx_r u23 v0 21))) rfl dX10_power_95 ?_
        refine gx_kv (gx_rV X (c_X10_remainder h) (Nat.le_trans (by decide) hd) (Nat.le_trans (by decide) (Nat.mul_le_mul_left 40 hd)) k1 rfl mw_761 mw_763 mp_20 mw_7 mw_764 hyX10_remainder (As := [.ref (ex_ad E (gx_r u23 v0 22)), .int (32 : Int32), .ref (ex_ad E (gx_r u23 v0 21))]) (rest := []) rfl rfl (Nat.le_of_ble_eq_true rfl) dX10_power_98) (fun u24 h => ?_)
        refine gx_aload_n X (j := 0) dX10_power_101 rfl rfl ?_
        refine gx_get X k1 rfl iwX10 21 (by decide) mw_542 (v := .ref (ex_ad E (gx_r u24 v0 21))) rfl dX10_power_102 ?_
        refine gx_iconst X (v := 0) dX10_power_105 (by decide) ?_
        refine gx_aload_n X (j := 0) dX10_power_106 rfl rfl ?_
        refine gx_get X k1 rfl iwX10 22 (by decide) mw_543 (v := .ref (ex_ad E (gx_r u24 v0 22))) rfl dX10_power_107 ?_
        refine gx_iconst X (v := 0) dX10_power_110 (by decide) ?_
        refine gx_bipush X (v := 33) dX10_power_111 (by decide) ?_
        obtain ⟨k25, h⟩ := h
        obtain ⟨k26, h⟩ := h
        obtain ⟨k27, k28, k29, k30, k31, h⟩ := h
        refine gx_copy X (Nat.le_trans (by decide) hd) k25 k26 rfl k27 k28 k29 k30 k31 mw_648 mw_339 mw_338 mw_12 (Nat.le_of_ble_eq_true rfl) dX10_power_113 ?_
        refine gx_nams (fun u32 eu32 => ?_)
        replace h := h u32 eu32
        refine gx_iconst X (v := 0) dX10_power_116 (by decide) ?_
        refine gx_istore_n X (lv' := [(1, .int (0 : Int32)), (0, .ref (ex_ad E v0))]) dX10_power_117 rfl (by decide) rfl ?_
        exact gx_sub [1, 0] rfl h
      · replace h := h.2 c33
        refine gx_iconst X (v := -1) dX10_power_32 (by decide) ?_
        exact gx_iret X hQ h dX10_power_33
set_option maxHeartbeats 4000000 in
set_option maxRecDepth 100000 in
theorem w_X10_power_118 {E : gx_E} (X : gx_X E cX10_power 2 RX10 (some .int)) (hd : 3 ≤ ex_d E) {post : Int32 → gx_S → Prop} (hQ : ex_Q E = va_Qi post (gx_B (ex_Z E)) (gx_A (ex_Z E))) {u : gx_S} {v0 : Nat} {v1 : Int32} (h : (((16 : Int32) ≤ v1 → (gx_isO v0 9 ∧ (S_X10_times u v0 (gx_r u v0 22) (fun (u2 : gx_S) => J_X10_power_163 E v0 (0 : Int32) u2)))) ∧ (¬ (16 : Int32) ≤ v1 → (gx_isO v0 9 ∧ (gx_isR (gx_r u v0 21) .int ∧ gx_isA (gx_r u v0 24) .int ∧ ¬ (0 : Int32) < 0 ∧ ¬ (0 : Int32) < 0 ∧ ¬ (33 : Int32) < 0 ∧ (0 : Int32).toNatClampNeg + (33 : Int32).toNatClampNeg ≤ gx_len (gx_r u v0 21) ∧ (0 : Int32).toNatClampNeg + (33 : Int32).toNatClampNeg ≤ gx_len (gx_r u v0 24) ∧ ∀ u11 : gx_S, u11 = gx_pa u (gx_r u v0 24) (va_cpy (gx_a u (gx_r u v0 21)) (gx_a u (gx_r u v0 24)) (0 : Int32).toNatClampNeg (0 : Int32).toNatClampNeg (33 : Int32).toNatClampNeg) → (S_X10_times u11 v0 (gx_r u11 v0 24) (fun (u12 : gx_S) => (∀ x13 : Int32, x13 = v1 + 1 → J_X10_power_118 E v0 x13 u12)))))))) : gx_Wc E 2 118 [(0, .ref (ex_ad E v0)), (1, .int v1)] [] u := by
  refine gx_iload_n X (j := 1) dX10_power_118 rfl rfl ?_
  refine gx_bipush X (v := 16) dX10_power_119 (by decide) ?_
  refine gx_icmp_ge X (tgt := 153) dX10_power_121 (by decide) (fun c14 => ?_) (fun c14 => ?_)
  · replace h := h.1 c14
    refine gx_aload_n X (j := 0) dX10_power_153 rfl rfl ?_
    refine gx_aload_n X (j := 0) dX10_power_154 rfl rfl ?_
    obtain ⟨k1, h⟩ := h
    refine gx_get X k1 rfl iwX10 22 (by decide) mw_543 (v := .ref (ex_ad E (gx_r u v0 22))) rfl dX10_power_155 ?_
    refine gx_kv (gx_rV X (c_X10_times h) (Nat.le_trans (by decide) hd) (Nat.le_trans (by decide) (Nat.mul_le_mul_left 40 hd)) k1 rfl mw_769 mw_771 mp_21 mw_7 mw_772 hyX10_times (As := [.ref (ex_ad E (gx_r u v0 22))]) (rest := []) rfl rfl (Nat.le_of_ble_eq_true rfl) dX10_power_158) (fun u2 h => ?_)
    refine gx_iconst X (v := 0) dX10_power_161 (by decide) ?_
    refine gx_istore_n X (lv' := [(1, .int (0 : Int32)), (0, .ref (ex_ad E v0))]) dX10_power_162 rfl (by decide) rfl ?_
    exact gx_sub [1, 0] rfl h
  · replace h := h.2 c14
    refine gx_aload_n X (j := 0) dX10_power_124 rfl rfl ?_
    obtain ⟨k3, h⟩ := h
    refine gx_get X k3 rfl iwX10 21 (by decide) mw_542 (v := .ref (ex_ad E (gx_r u v0 21))) rfl dX10_power_125 ?_
    refine gx_iconst X (v := 0) dX10_power_128 (by decide) ?_
    refine gx_aload_n X (j := 0) dX10_power_129 rfl rfl ?_
    refine gx_get X k3 rfl iwX10 24 (by decide) mw_545 (v := .ref (ex_ad E (gx_r u v0 24))) rfl dX10_power_130 ?_
    refine gx_iconst X (v := 0) dX10_power_133 (by decide) ?_
    refine gx_bipush X (v := 33) dX10_power_134 (by decide) ?_
    obtain ⟨k4, h⟩ := h
    obtain ⟨k5, h⟩ := h
    obtain ⟨k6, k7, k8, k9, k10, h⟩ := h
    refine gx_copy X (Nat.le_trans (by decide) hd) k4 k5 rfl k6 k7 k8 k9 k10 mw_648 mw_339 mw_338 mw_12 (Nat.le_of_ble_eq_true rfl) dX10_power_136 ?_
    refine gx_nams (fun u11 eu11 => ?_)
    replace h := h u11 eu11
    refine gx_aload_n X (j := 0) dX10_power_139 rfl rfl ?_
    refine gx_aload_n X (j := 0) dX10_power_140 rfl rfl ?_
    refine gx_get X k3 rfl iwX10 24 (by decide) mw_545 (v := .ref (ex_ad E (gx_r u11 v0 24))) rfl dX10_power_141 ?_
    refine gx_kv (gx_rV X (c_X10_times h) (Nat.le_trans (by decide) hd) (Nat.le_trans (by decide) (Nat.mul_le_mul_left 40 hd)) k3 rfl mw_769 mw_771 mp_21 mw_7 mw_772 hyX10_times (As := [.ref (ex_ad E (gx_r u11 v0 24))]) (rest := []) rfl rfl (Nat.le_of_ble_eq_true rfl) dX10_power_144) (fun u12 h => ?_)
    obtain ⟨x13, ex13⟩ : ∃ y : Int32, y = v1 + 1 := ⟨_, rfl⟩
    replace h := h x13 ex13
    refine gx_iinc X (v := x13) (lv' := [(1, .int x13), (0, .ref (ex_ad E v0))]) dX10_power_147 (j := 1) rfl (by rw [ex13]; rfl) (by decide) rfl ?_
    refine gx_goto X (tgt := 118) dX10_power_150 (by decide) ?_
    exact gx_sub [1, 0] rfl h
set_option maxHeartbeats 4000000 in
set_option maxRecDepth 100000 in
theorem w_X10_power_163 {E : gx_E} (X : gx_X E cX10_power 2 RX10 (some .int)) (hd : 3 ≤ ex_d E) {post : Int32 → gx_S → Prop} (hQ : ex_Q E = va_Qi post (gx_B (ex_Z E)) (gx_A (ex_Z E))) {u : gx_S} {v0 : Nat} {v1 : Int32} (h : (((64 : Int32) ≤ v1 → (gx_isO v0 9 ∧ ∀ u2 : gx_S, u2 = gx_pi u v0 2 (64 : Int32) → post (64 : Int32) u2)) ∧ (¬ (64 : Int32) ≤ v1 → (gx_isO v0 9 ∧ (gx_isR (gx_r u v0 21) .int ∧ vp_in (((63 : Int32) - v1) / (2 : Int32)) (gx_len (gx_r u v0 21)) ∧ (gx_isA (gx_r u v0 3) .byte ∧ vp_in v1 (gx_len (gx_r u v0 3)) ∧ ∀ u8 : gx_S, u8 = gx_pa u (gx_r u v0 3) (upd (gx_a u (gx_r u v0 3)) v1.toNatClampNeg ((((gx_a u (gx_r u v0 21) (((63 : Int32) - v1) / (2 : Int32)).toNatClampNeg) >>> (((8 : Int32) * (((63 : Int32) - v1) - ((63 : Int32) - v1) / (2 : Int32) * (2 : Int32))) &&& 31))).toInt8.toInt32).toInt8.toInt32) → (∀ x9 : Int32, x9 = v1 + 1 → J_X10_power_163 E v0 x9 u8))))))) : gx_Wc E 2 163 [(0, .ref (ex_ad E v0)), (1, .int v1)] [] u := by
  refine gx_iload_n X (j := 1) dX10_power_163 rfl rfl ?_
  refine gx_bipush X (v := 64) dX10_power_164 (by decide) ?_
  refine gx_icmp_ge X (tgt := 203) dX10_power_166 (by decide) (fun c10 => ?_) (fun c10 => ?_)
  · replace h := h.1 c10
    refine gx_aload_n X (j := 0) dX10_power_203 rfl rfl ?_
    refine gx_bipush X (v := 64) dX10_power_204 (by decide) ?_
    obtain ⟨k1, h⟩ := h
    refine gx_put X k1 rfl iwX10 tyX10_ok nmX10 2 (by decide) mw_523 rfl rfl rfl (fun _ => rfl) dX10_power_206 ?_
    refine gx_nams (fun u2 eu2 => ?_)
    replace h := h u2 eu2
    refine gx_bipush X (v := 64) dX10_power_209 (by decide) ?_
    exact gx_iret X hQ h dX10_power_211
  · replace h := h.2 c10
    refine gx_aload_n X (j := 0) dX10_power_169 rfl rfl ?_
    obtain ⟨k3, h⟩ := h
    refine gx_get X k3 rfl iwX10 3 (by decide) mw_524 (v := .ref (ex_ad E (gx_r u v0 3))) rfl dX10_power_170 ?_
    refine gx_iload_n X (j := 1) dX10_power_173 rfl rfl ?_
    refine gx_aload_n X (j := 0) dX10_power_174 rfl rfl ?_
    refine gx_get X k3 rfl iwX10 21 (by decide) mw_542 (v := .ref (ex_ad E (gx_r u v0 21))) rfl dX10_power_175 ?_
    refine gx_bipush X (v := 63) dX10_power_178 (by decide) ?_
    refine gx_iload_n X (j := 1) dX10_power_180 rfl rfl ?_
    refine gx_isub X dX10_power_181 ?_
    refine gx_iconst X (v := 2) dX10_power_182 (by decide) ?_
    refine gx_idiv X dX10_power_183 (by decide) ?_
    obtain ⟨k4, h⟩ := h
    obtain ⟨k5, h⟩ := h
    refine gx_iald X k4 k5 dX10_power_184 ?_
    refine gx_bipush X (v := 8) dX10_power_185 (by decide) ?_
    refine gx_bipush X (v := 63) dX10_power_187 (by decide) ?_
    refine gx_iload_n X (j := 1) dX10_power_189 rfl rfl ?_
    refine gx_isub X dX10_power_190 ?_
    refine gx_iconst X (v := 2) dX10_power_191 (by decide) ?_
    refine gx_irem X dX10_power_192 (by decide) ?_
    refine gx_imul X dX10_power_193 ?_
    refine gx_ishr X dX10_power_194 ?_
    refine gx_i2b X (v := (((gx_a u (gx_r u v0 21) (((63 : Int32) - v1) / (2 : Int32)).toNatClampNeg) >>> (((8 : Int32) * (((63 : Int32) - v1) - ((63 : Int32) - v1) / (2 : Int32) * (2 : Int32))) &&& 31))).toInt8.toInt32) dX10_power_195 rfl ?_
    obtain ⟨k6, h⟩ := h
    obtain ⟨k7, h⟩ := h
    refine gx_bast X k6 k7 dX10_power_196 ?_
    refine gx_nams (fun u8 eu8 => ?_)
    replace h := h u8 eu8
    obtain ⟨x9, ex9⟩ : ∃ y : Int32, y = v1 + 1 := ⟨_, rfl⟩
    replace h := h x9 ex9
    refine gx_iinc X (v := x9) (lv' := [(1, .int x9), (0, .ref (ex_ad E v0))]) dX10_power_197 (j := 1) rfl (by rw [ex9]; rfl) (by decide) rfl ?_
    refine gx_goto X (tgt := 163) dX10_power_200 (by decide) ?_
    exact gx_sub [1, 0] rfl h
theorem sneg : ∀ c, c < 256 → (0 ≤ sb_b c ↔ c < 128) := by decide +kernel
theorem sodd : ∀ c, c < 256 → (sb_b c &&& (1 : Int32) = 0 ↔ c % 2 = 0) := by decide +kernel
theorem ch_pB {a : Nat → Int32} : ∀ m k, m ≤ 32 → k < 2 * m → ch (pB a m) k = if k % 2 = 0 then dv (a ((63 - k) / 2)) / 256 else dv (a ((63 - k) / 2)) % 256
  | 0, k, _, hk => by omega
  | m + 1, k, hm, hk => by
    unfold pB
    by_cases h1 : k < 2 * m
    · rw [List.append_assoc, ch_app_lo (by rw [pB_len]; omega)]
      exact ch_pB m k (by omega) h1
    · by_cases h2 : k = 2 * m
      · rw [ch_app_lo (by rw [len_push, pB_len]; omega), ch_app_hi (by rw [pB_len]; omega), pB_len, if_pos (by omega), show k - 2 * m = 0 by omega, show (63 - k) / 2 = 31 - m by omega]
        rfl
      · rw [ch_app_hi (by rw [len_push, pB_len]; omega), len_push, pB_len, if_neg (by omega), show k - (2 * m + 1) = 0 by omega, show (63 - k) / 2 = 31 - m by omega]
        rfl
theorem okL_pB {a : Nat → Int32} (h : okD a 32) : ∀ m, m ≤ 32 → okL (pB a m)
  | 0, _ => fun c hc => absurd hc List.not_mem_nil
  | m + 1, hm => by
    have d := h (31 - m) (by omega)
    exact okL_push (okL_push (okL_pB h m (by omega)) (by omega)) (by omega)
def S_X10_power (u : gx_S) (v0 : Nat) (post : Int32 → gx_S → Prop) : Prop := v0 = 21 ∧ ∃ (t k : Nat) (T O M G : List Nat) (HC KC : Nat → Int32), mS u t T O M k G HC KC ∧ (canT T = true → ∀ r : Nat → Int32, okD r 32 → vA r 32 = vA (dgT T 0) 32 ^ 65537 % vA (dgT T 64) 32 → ∀ v, exM u v → mS v t [] (pB r 32) M k G HC KC → post 64 v) ∧ (canT T = false → ∀ v, exM u v → mS v t [] O M k G HC KC → post (-1) v)
theorem lpp163 {E : gx_E} (X : gx_X E cX10_power 2 RX10 (some .int)) (hd : 3 ≤ ex_d E) {post : Int32 → gx_S → Prop} (hQ : ex_Q E = va_Qi post (gx_B (ex_Z E)) (gx_A (ex_Z E))) {u0 : gx_S} {t : Nat} (hf0 : mfix t u0) (ok : okD (gx_a u0 53) 32) (next : ∀ v, exG [29] [(21, 2)] u0 v → mo v (pB (gx_a u0 53) 32) → post 64 v) :
    ∀ (n k : Nat) (u : gx_S), 64 - k = n → k ≤ 64 → exG [29] [(21, 2)] u0 u → (∀ j, j < k → gx_a u 29 j = sb_b (ch (pB (gx_a u0 53) 32) j)) → J_X10_power_163 E 21 (nI k) u := by
  intro n
  induction n with
  | zero =>
    intro k u hn hk hx hw
    refine w_X10_power_163 X hd hQ ⟨fun _ => ⟨isO21, fun u2 e2 => ?_⟩, fun q => absurd (nI_le (a := 64) (by omega) (by omega)) q⟩
    have hl : (pB (gx_a u0 53) 32).length = 64 := pB_len _ 32
    refine next u2 (exG_tr hx (by rw [e2]; exact exG_pi _ _ (by simp))) ⟨by rw [e2, gx_i_pi, if_pos ⟨rfl, rfl⟩, hl]; rfl, by omega, okL_pB ok 32 (Nat.le_refl _), fun j hj => ?_⟩
    rw [e2, gx_a_pi]
    exact hw j (by omega)
  | succ n ih =>
    intro k u hn hk hx hw
    have hf := exG_mfix hx hf0
    have d := ok ((63 - k) / 2) (by omega)
    have hm : (63 - k) % 2 < 2 := Nat.mod_lt _ (by omega)
    refine w_X10_power_163 X hd hQ ⟨fun q => absurd q (nI_ge (b := 64) (by omega) (by omega)), fun _ => ⟨isO21, ?_⟩⟩
    rw [show gx_r u 21 21 = 53 from hf 21 21 (by decide) (by decide), show gx_r u 21 3 = 29 from hf 21 3 (by decide) (by decide), show (63 : Int32) = nI 63 from rfl, pk_sub (by omega), show (2 : Int32) = nI 2 from rfl, pk_div (by omega) (by omega) (by omega), pk_mul, pk_sub (by omega), show 63 - k - (63 - k) / 2 * 2 = (63 - k) % 2 by omega, show (8 : Int32) = nI 8 from rfl, pk_mul, nI_clamp (show (63 - k) / 2 < 2 ^ 31 by omega), nI_clamp (show k < 2 ^ 31 by omega), hx.2.2 53 (by decide), shr8 (gx_a u0 53 ((63 - k) / 2)) (8 * ((63 - k) % 2)) (by omega), byte_sb (Nat.mod_lt _ (by omega))]
    refine ⟨isA53.r, in33 rfl (by omega), isA29, vp_in_nI (N := 4000) (by omega) (by omega), fun u8 e8 x9 e9 => ?_⟩
    rw [e9, nI_1]
    refine ih (k + 1) u8 (by omega) (by omega) (exG_tr hx (by rw [e8]; exact exG_pa _ _ (by simp))) (fun j hj => ?_)
    rw [e8, gx_a_pa, if_pos rfl]
    by_cases w : j = k
    · rw [w, pk_us, ch_pB 32 k (Nat.le_refl _) (by omega)]
      have hdv : (gx_a u0 53 ((63 - k) / 2)).toBitVec.toNat = dv (gx_a u0 53 ((63 - k) / 2)) := rfl
      rw [hdv]
      have : (63 - k) % 2 = 0 ∨ (63 - k) % 2 = 1 := by omega
      rcases this with e | e
      · rw [e, if_neg (by omega), Nat.mul_zero, Nat.pow_zero, Nat.div_one]
      · rw [e, if_pos (by omega), Nat.mul_one, show (2 : Nat) ^ 8 = 256 from rfl, Nat.mod_eq_of_lt (by omega)]
    · rw [pk_un w]; exact hw j (by omega)
theorem cpy33 {f g : Nat → Int32} {N : Nat} (hN : N = 33) : (∀ j, j < N → va_cpy f g 0 0 33 j = f j) := fun j hj => sb_cpy0 (by omega)
theorem lpp118 {E : gx_E} (X : gx_X E cX10_power 2 RX10 (some .int)) (hd : 3 ≤ ex_d E) {post : Int32 → gx_S → Prop} (hQ : ex_Q E = va_Qi post (gx_B (ex_Z E)) (gx_A (ex_Z E))) {u0 : gx_S} {t N m b : Nat} (hN : N = 33) (hm : m = 32) (hf0 : mfix t u0) (okM : okD (gx_a u0 52) N) (hM0 : 0 < vA (gx_a u0 52) N) (hM1 : vA (gx_a u0 52) N < 65536 ^ m)
    (next : ∀ u, exA [53, 54, 55, 56] u0 u → okD (gx_a u 53) N → vA (gx_a u 53) N = b ^ 65537 % vA (gx_a u0 52) N → J_X10_power_163 E 21 0 u) :
    ∀ (n i : Nat) (u : gx_S), 16 - i = n → i ≤ 16 → exA [53, 54, 55, 56] u0 u → okD (gx_a u 53) N → okD (gx_a u 54) N → vA (gx_a u 54) N = b % vA (gx_a u0 52) N → vA (gx_a u 53) N = b ^ 2 ^ i % vA (gx_a u0 52) N → J_X10_power_118 E 21 (nI i) u := by
  intro n
  induction n with
  | zero =>
    intro i u hn hi hx okP okB hB hP
    have ei : i = 16 := by omega
    subst ei
    have hf := exA_mfix hx hf0
    have e52 : gx_a u 52 = gx_a u0 52 := hx.2.2.2 52 (by decide)
    have lP : vA (gx_a u 53) N < vA (gx_a u0 52) N := by rw [hP]; exact Nat.mod_lt _ hM0
    have lB : vA (gx_a u 54) N < vA (gx_a u0 52) N := by rw [hB]; exact Nat.mod_lt _ hM0
    refine w_X10_power_118 X hd hQ ⟨fun _ => ⟨isO21, ?_⟩, fun q => absurd (nI_le (a := 16) (by omega) (by omega)) q⟩
    rw [show gx_r u 21 22 = 54 from hf 21 22 (by decide) (by decide)]
    refine ⟨rfl, t, N, m, hN, hm, hf, isA54.r, rfl, by decide, by decide, okB, okP, by rw [e52]; exact okM, by rw [e52]; exact hM0, by rw [e52]; exact hM1, Nat.lt_trans lB hM1, Nat.lt_trans lP hM1, fun v xv okv hv => ?_⟩
    refine next v (exA_tr hx (exA_wk xv (by simp))) okv ?_
    rw [hv, hP, hB, e52, ← Nat.mul_mod, ← Nat.pow_succ]
  | succ n ih =>
    intro i u hn hi hx okP okB hB hP
    have hf := exA_mfix hx hf0
    have e52 : gx_a u 52 = gx_a u0 52 := hx.2.2.2 52 (by decide)
    have lP : vA (gx_a u 53) N < vA (gx_a u0 52) N := by rw [hP]; exact Nat.mod_lt _ hM0
    refine w_X10_power_118 X hd hQ ⟨fun q => absurd q (nI_ge (b := 16) (by omega) (by omega)), fun _ => ⟨isO21, ?_⟩⟩
    rw [show gx_r u 21 21 = 53 from hf 21 21 (by decide) (by decide), show gx_r u 21 24 = 56 from hf 21 24 (by decide) (by decide)]
    refine ⟨isA53.r, isA56, by decide, by decide, by decide, by decide, by decide, fun u11 e11 => ?_⟩
    have x11 : exA [56] u u11 := by rw [e11]; exact exA_pa _ _ (by simp)
    have a56 : ∀ j, j < N → gx_a u11 56 j = gx_a u 53 j := fun j hj => by
      rw [e11, gx_a_pa, if_pos rfl]
      exact cpy33 hN j hj
    have f11 := exA_mfix x11 hf
    have b53 : gx_a u11 53 = gx_a u 53 := x11.2.2.2 53 (by decide)
    have b54 : gx_a u11 54 = gx_a u 54 := x11.2.2.2 54 (by decide)
    have b52 : gx_a u11 52 = gx_a u0 52 := by rw [x11.2.2.2 52 (by decide), e52]
    have v56 : vA (gx_a u11 56) N = vA (gx_a u 53) N := vA_cg N a56
    rw [show gx_r u11 21 24 = 56 from f11 21 24 (by decide) (by decide)]
    refine ⟨rfl, t, N, m, hN, hm, f11, isA56.r, rfl, by decide, by decide, fun j hj => by rw [a56 j hj]; exact okP j hj, by rw [b53]; exact okP, by rw [b52]; exact okM, by rw [b52]; exact hM0, by rw [b52]; exact hM1, by rw [v56]; exact Nat.lt_trans lP hM1, by rw [b53]; exact Nat.lt_trans lP hM1, fun v xv okv hv => ?_⟩
    rintro x13 rfl
    rw [nI_1]
    have c54 : gx_a v 54 = gx_a u 54 := by rw [xv.2.2.2 54 (by decide), b54]
    refine ih (i + 1) v (by omega) (by omega) (exA_tr hx (exA_tr (exA_wk x11 (by simp)) (exA_wk xv (by simp)))) okv (by rw [c54]; exact okB) (by rw [c54]; exact hB) ?_
    rw [hv, v56, b53, b52, hP, ← Nat.mul_mod, pw_s]
theorem dg_dgT {T : List Nat} {p i : Nat} (hi : i < 32) : nI (ch T (p + (62 - 2 * i)) * 256 + ch T (p + (63 - 2 * i))) = dgT T p i := by
  unfold dgT
  rw [show p + (62 - 2 * i) = p + 62 - 2 * i by omega, show p + (63 - 2 * i) = p + 63 - 2 * i by omega]
theorem v33 {a b : Nat → Int32} {N m : Nat} (hN : N = m + 1) (h : ∀ i, i < m → a i = b i) (h0 : a m = 0) : vA a N = vA b m := by
  rw [hN, vA_s, h0, show dv 0 = 0 by decide, Nat.zero_mul, Nat.add_zero]
  exact vA_cg m h
theorem M_pos' {a : Nat → Int32} {m : Nat} (hm : m = 32) (h : 32768 ≤ dv (a 31)) : 0 < vA a m := by subst hm; exact M_pos h
theorem w_X10_power {E : gx_E} (X : gx_X E cX10_power 2 RX10 (some .int)) (hd : 3 ≤ ex_d E) {post : Int32 → gx_S → Prop} (hQ : ex_Q E = va_Qi post (gx_B (ex_Z E)) (gx_A (ex_Z E))) {u : gx_S} {v0 : Nat} (h : S_X10_power u v0 post) : gx_Wc E 2 0 [(0, .ref (ex_ad E v0))] [] u := by
  obtain ⟨rfl, t, k, T, O, M, G, HC, KC, hS, h1, h2⟩ := h
  have hT := hS.2.2.1
  have hTl := hT.2.1
  refine w_X10_power_0 X hd hQ ⟨isO21, isO21, ?_⟩
  intro x2 e2 u2 e3
  have s := mS_t hS (v := u2) (T' := []) (by rw [e3]; exact exG_pi _ _ (by simp)) (by rw [e3]; exact mt_cut hT (n := 0) (by omega))
  have a28 : gx_a u2 28 = gx_a u 28 := by rw [e3]; rfl
  have hf := s.1.2.1
  have hno : canT T = false → post (-1) u2 := fun w => h2 w u2 s.2 s.1
  rw [e2, hT.1, show (128 : Int32) = nI 128 from rfl, nI_eq (by omega) (by omega)]
  refine ⟨fun q => hno ?_, fun q => ?_⟩
  · unfold canT
    rw [decide_eq_false q]
    rfl
  have hr : rdb T (gx_a u2 28) := by rw [a28]; exact hT.2.2
  have c64 := ch_lt hr.1 (j := 64) (by omega)
  have c127 := ch_lt hr.1 (j := 127) (by omega)
  rw [show gx_r u2 21 0 = 28 from hf 21 0 (by decide) (by decide), show (64 : Int32).toNatClampNeg = 64 by decide, show (127 : Int32).toNatClampNeg = 127 by decide, hr.2 64 (by omega), hr.2 127 (by omega), sneg _ c64, sodd _ c127]
  refine ⟨isA28.r, in28 (i := 64) (by omega), fun q2 => hno ?_, fun q2 => ⟨in28 (i := 127) (by omega), fun q3 => ?_, fun q3 => hno ?_⟩⟩
  · unfold canT
    rw [decide_eq_false (show ¬ 128 ≤ ch T 64 by omega)]
    simp
  · have hc : canT T = true := by
      unfold canT
      rw [decide_eq_true q, decide_eq_true (show 128 ≤ ch T 64 by omega), decide_eq_true (show ch T 127 % 2 = 1 by omega)]
      rfl
    rw [show gx_r u2 21 26 = 58 from hf 21 26 (by decide) (by decide)]
    refine ⟨isA58, by decide, by decide, by decide, by decide, by decide, fun u13 e13 => ?_⟩
    have x13 : exA [58] u2 u13 := by rw [e13]; exact exA_pa _ _ (by simp)
    have f13 := exA_mfix x13 hf
    rw [show gx_r u13 21 0 = 28 from f13 21 0 (by decide) (by decide), show gx_r u13 21 27 = 59 from f13 21 27 (by decide) (by decide)]
    refine ⟨isA28.r, isA59, by decide, by decide, by decide, by decide, by decide, fun u21 e21 => ?_⟩
    have x21 : exA [58, 59] u2 u21 := exA_tr (exA_wk x13 (by simp)) (by rw [e21]; exact exA_pa _ _ (by simp))
    have f21 := exA_mfix x21 hf
    have b58 : ∀ j, j < 64 → gx_a u21 58 j = sb_b (ch T (0 + j)) ∧ ch T (0 + j) < 256 := fun j hj => by
      have g : gx_a u21 58 = va_cpy (gx_a u2 28) (gx_a u2 58) 0 0 64 := by subst e21 e13; rfl
      rw [g, sb_cpy0 hj, Nat.zero_add]
      exact ⟨hr.2 j (by omega), ch_lt hr.1 (by omega)⟩
    have b59 : ∀ j, j < 64 → gx_a u21 59 j = sb_b (ch T (64 + j)) ∧ ch T (64 + j) < 256 := fun j hj => by
      have g : gx_a u21 59 = va_cpy (gx_a u2 28) (gx_a u2 59) 64 0 64 := by subst e21 e13; rfl
      have e1 : va_cpy (gx_a u2 28) (gx_a u2 59) 64 0 64 j = gx_a u2 28 (64 + j) := by
        unfold va_cpy
        rw [if_pos ⟨by omega, by omega⟩]
        congr 1
      rw [g, e1]
      exact ⟨hr.2 (64 + j) (by omega), ch_lt hr.1 (by omega)⟩
    rw [show gx_r u21 21 27 = 59 from f21 21 27 (by decide) (by decide), show gx_r u21 21 20 = 52 from f21 21 20 (by decide) (by decide)]
    refine ⟨isA59.r, rfl, isA52, rfl, by decide, fun j => ch T (64 + j), b59, fun u22 x22 d22 z22 => ?_⟩
    have f22 := exA_mfix x22 f21
    dsimp only
    rw [show gx_r u22 21 26 = 58 from f22 21 26 (by decide) (by decide), show gx_r u22 21 22 = 54 from f22 21 22 (by decide) (by decide)]
    refine ⟨isA58.r, rfl, isA54, rfl, by decide, fun j => ch T (0 + j), fun j hj => by rw [x22.2.2.2 58 (by decide)]; exact b58 j hj, fun u23 x23 d23 z23 => ?_⟩
    have f23 := exA_mfix x23 f22
    have m52 : gx_a u23 52 = gx_a u22 52 := x23.2.2.2 52 (by decide)
    have d52 : ∀ i, i < 32 → gx_a u23 52 i = dgT T 64 i := fun i hi => by rw [m52, d22 i hi]; exact dg_dgT hi
    have z52 : gx_a u23 52 32 = 0 := by rw [m52]; exact z22
    have d54 : ∀ i, i < 32 → gx_a u23 54 i = dgT T 0 i := fun i hi => by rw [d23 i hi]; exact dg_dgT hi
    have ob := okD_dgT hr.1 0 (by omega)
    have op := okD_dgT hr.1 64 (by omega)
    have p31 : 32768 ≤ dv (dgT T 64 31) := by
      rw [(op 31 (by omega)).1, show (64 + 62 - 2 * 31) = 64 by omega]
      omega
    obtain ⟨m, hm⟩ : ∃ m : Nat, m = 32 := ⟨32, rfl⟩
    obtain ⟨N, hN⟩ : ∃ N : Nat, N = m + 1 := ⟨m + 1, rfl⟩
    have hN33 : N = 33 := by omega
    have vM : vA (gx_a u23 52) N = vA (dgT T 64) m := v33 hN (fun i hi => d52 i (by omega)) (by rw [hm]; exact z52)
    have okM : okD (gx_a u23 52) N := fun j hj => by
      by_cases e : j = 32
      · rw [e, z52]; decide
      · rw [d52 j (by omega)]; exact (op j (by omega)).2
    have vB : vA (gx_a u23 54) m = vA (dgT T 0) m := vA_cg m (fun i hi => d54 i (by omega))
    have M0 : 0 < vA (gx_a u23 52) N := by rw [vM]; exact M_pos' hm p31
    have M1 : vA (gx_a u23 52) N < 65536 ^ m := by rw [vM]; exact vA_lt m (fun j hj => (op j (by omega)).2)
    dsimp only
    rw [show gx_r u23 21 22 = 54 from f23 21 22 (by decide) (by decide), show gx_r u23 21 21 = 53 from f23 21 21 (by decide) (by decide)]
    refine ⟨rfl, rfl, t, m, N, hN33, f23, isA54.r, by omega, by show m ≤ 33; omega, by decide, by decide, by rw [hm]; rfl, fun j hj => by rw [d54 j (by omega)]; exact (ob j (by omega)).2, okM, M0, ?_, fun u24 x24 ok24 v24 => ?_⟩
    · rw [hN] at M1 ⊢
      rw [pow_s]
      generalize 65536 ^ m = P at *
      omega
    have f24 := exA_mfix x24 f23
    dsimp only
    rw [show gx_r u24 21 21 = 53 from f24 21 21 (by decide) (by decide), show gx_r u24 21 22 = 54 from f24 21 22 (by decide) (by decide)]
    refine ⟨isA53.r, isA54, by decide, by decide, by decide, by decide, by decide, fun u32 e32 => ?_⟩
    have x32 : exA [53, 54, 55, 56] u23 u32 := exA_tr (exA_wk x24 (by simp)) (by rw [e32]; exact exA_pa _ _ (by simp))
    have a54 : ∀ j, j < N → gx_a u32 54 j = gx_a u24 53 j := fun j hj => by
      rw [e32, gx_a_pa, if_pos rfl]
      exact cpy33 hN33 j hj
    have a53 : gx_a u32 53 = gx_a u24 53 := by rw [e32]; rfl
    rw [vB] at v24
    have all : exA [52, 53, 54, 55, 56, 58, 59] u2 u32 := exA_tr (exA_wk x21 (by simp)) (exA_tr (exA_wk x22 (by simp)) (exA_tr (exA_wk x23 (by simp)) (exA_wk x32 (by simp))))
    refine lpp118 X hd hQ (u0 := u23) (N := N) (m := m) (b := vA (dgT T 0) m) hN33 hm f23 okM M0 M1 (fun u40 x40 ok40 v40 => ?_) 16 0 u32 rfl (by omega) x32 (by rw [a53]; exact ok24) (fun j hj => by rw [a54 j hj]; exact ok24 j hj) (by rw [vA_cg N a54]; exact v24) (by rw [a53, Nat.pow_zero, Nat.pow_one]; exact v24)
    have all40 : exA [52, 53, 54, 55, 56, 58, 59] u2 u40 := exA_tr (exA_wk x21 (by simp)) (exA_tr (exA_wk x22 (by simp)) (exA_tr (exA_wk x23 (by simp)) (exA_wk x40 (by simp))))
    have s40 := mS_x s.1 (exA_G all40) (by decide) (by decide)
    have ok32 : okD (gx_a u40 53) m := fun j hj => ok40 j (by omega)
    have lt40 : vA (gx_a u40 53) N < 65536 ^ m := by rw [v40]; exact Nat.lt_trans (Nat.mod_lt _ M0) M1
    have vv : vA (gx_a u40 53) m = vA (dgT T 0) m ^ 65537 % vA (dgT T 64) m := by
      rw [← vM, ← v40]
      rw [hN] at lt40 ⊢
      exact (top0 lt40).symm
    rw [hm] at ok32 vv
    refine lpp163 X hd hQ (u0 := u40) s40.1.2.1 ok32 (fun v xv mv => ?_) 64 0 u40 rfl (by omega) (exG_rf _ _ _) (fun j hj => absurd hj (by omega))
    have s41 := mS_o s40.1 xv mv
    exact h1 hc (gx_a u40 53) ok32 vv v (exM_tr s.2 (exM_tr s40.2 s41.2)) s41.1
  · unfold canT
    rw [decide_eq_false (show ¬ ch T 127 % 2 = 1 by omega)]
    simp
theorem c_X10_power {l : Launch} {Z : gx_Z} {u : gx_S} {v0 : Nat} {post : Int32 → gx_S → Prop} (h : S_X10_power u v0 post) : Met l yX10_power (Cond.code yX10_power cX10_power 2 (some .int) :: gx_TB) (gx_rm 3) (gx_Pre Z u [.ref (Z.2.1 v0)]) (va_Qi post (gx_B Z) (gx_A Z)) 0 0 (gx_A Z) := by
  refine gx_met (by decide +kernel) (Nat.le_of_ble_eq_true rfl) ?_
  intro E X hZ hQ hD hL
  subst hZ
  exact w_X10_power X (Nat.le_of_eq hD.symm) hQ h

-- PlainSealModel.remainder([II[I)V
theorem dX10_remainder_0 : decode cX10_remainder 0 = .ok (.aload_n 3, 1) := by decide +kernel
theorem dX10_remainder_1 : decode cX10_remainder 1 = .ok (.iconst 0, 1) := by decide +kernel
theorem dX10_remainder_2 : decode cX10_remainder 2 = .ok (.invokestatic 214, 3) := by decide +kernel
theorem dX10_remainder_5 : decode cX10_remainder 5 = .ok (.bipush 16, 2) := by decide +kernel
theorem dX10_remainder_7 : decode cX10_remainder 7 = .ok (.iload_n 2, 1) := by decide +kernel
theorem dX10_remainder_8 : decode cX10_remainder 8 = .ok (.imul, 1) := by decide +kernel
theorem dX10_remainder_9 : decode cX10_remainder 9 = .ok (.iconst 1, 1) := by decide +kernel
theorem dX10_remainder_10 : decode cX10_remainder 10 = .ok (.isub, 1) := by decide +kernel
theorem dX10_remainder_11 : decode cX10_remainder 11 = .ok (.istore 4, 2) := by decide +kernel
theorem dX10_remainder_13 : decode cX10_remainder 13 = .ok (.iload 4, 2) := by decide +kernel
theorem dX10_remainder_15 : decode cX10_remainder 15 = .ok (.ifCond .lt 140, 3) := by decide +kernel
theorem dX10_remainder_18 : decode cX10_remainder 18 = .ok (.aload_n 1, 1) := by decide +kernel
theorem dX10_remainder_19 : decode cX10_remainder 19 = .ok (.iload 4, 2) := by decide +kernel
theorem dX10_remainder_21 : decode cX10_remainder 21 = .ok (.bipush 16, 2) := by decide +kernel
theorem dX10_remainder_23 : decode cX10_remainder 23 = .ok (.idiv, 1) := by decide +kernel
theorem dX10_remainder_24 : decode cX10_remainder 24 = .ok (.iaload, 1) := by decide +kernel
theorem dX10_remainder_25 : decode cX10_remainder 25 = .ok (.iload 4, 2) := by decide +kernel
theorem dX10_remainder_27 : decode cX10_remainder 27 = .ok (.bipush 16, 2) := by decide +kernel
theorem dX10_remainder_29 : decode cX10_remainder 29 = .ok (.irem, 1) := by decide +kernel
theorem dX10_remainder_30 : decode cX10_remainder 30 = .ok (.ishr, 1) := by decide +kernel
theorem dX10_remainder_31 : decode cX10_remainder 31 = .ok (.iconst 1, 1) := by decide +kernel
theorem dX10_remainder_32 : decode cX10_remainder 32 = .ok (.iand, 1) := by decide +kernel
theorem dX10_remainder_33 : decode cX10_remainder 33 = .ok (.istore 5, 2) := by decide +kernel
theorem dX10_remainder_35 : decode cX10_remainder 35 = .ok (.iconst 0, 1) := by decide +kernel
theorem dX10_remainder_36 : decode cX10_remainder 36 = .ok (.istore 6, 2) := by decide +kernel
theorem dX10_remainder_38 : decode cX10_remainder 38 = .ok (.iload 6, 2) := by decide +kernel
theorem dX10_remainder_40 : decode cX10_remainder 40 = .ok (.bipush 33, 2) := by decide +kernel
theorem dX10_remainder_42 : decode cX10_remainder 42 = .ok (.if_icmp .ge 36, 3) := by decide +kernel
theorem dX10_remainder_45 : decode cX10_remainder 45 = .ok (.aload_n 3, 1) := by decide +kernel
theorem dX10_remainder_46 : decode cX10_remainder 46 = .ok (.iload 6, 2) := by decide +kernel
theorem dX10_remainder_48 : decode cX10_remainder 48 = .ok (.iaload, 1) := by decide +kernel
theorem dX10_remainder_49 : decode cX10_remainder 49 = .ok (.iconst 1, 1) := by decide +kernel
theorem dX10_remainder_50 : decode cX10_remainder 50 = .ok (.ishl, 1) := by decide +kernel
theorem dX10_remainder_51 : decode cX10_remainder 51 = .ok (.iload 5, 2) := by decide +kernel
theorem dX10_remainder_53 : decode cX10_remainder 53 = .ok (.ior, 1) := by decide +kernel
theorem dX10_remainder_54 : decode cX10_remainder 54 = .ok (.istore 7, 2) := by decide +kernel
theorem dX10_remainder_56 : decode cX10_remainder 56 = .ok (.aload_n 3, 1) := by decide +kernel
theorem dX10_remainder_57 : decode cX10_remainder 57 = .ok (.iload 6, 2) := by decide +kernel
theorem dX10_remainder_59 : decode cX10_remainder 59 = .ok (.iload 7, 2) := by decide +kernel
theorem dX10_remainder_61 : decode cX10_remainder 61 = .ok (.ldc 220, 2) := by decide +kernel
theorem dX10_remainder_63 : decode cX10_remainder 63 = .ok (.iand, 1) := by decide +kernel
theorem dX10_remainder_64 : decode cX10_remainder 64 = .ok (.iastore, 1) := by decide +kernel
theorem dX10_remainder_65 : decode cX10_remainder 65 = .ok (.iload 7, 2) := by decide +kernel
theorem dX10_remainder_67 : decode cX10_remainder 67 = .ok (.bipush 16, 2) := by decide +kernel
theorem dX10_remainder_69 : decode cX10_remainder 69 = .ok (.ishr, 1) := by decide +kernel
theorem dX10_remainder_70 : decode cX10_remainder 70 = .ok (.istore 5, 2) := by decide +kernel
theorem dX10_remainder_72 : decode cX10_remainder 72 = .ok (.iinc 6 1, 3) := by decide +kernel
theorem dX10_remainder_75 : decode cX10_remainder 75 = .ok (.goto (-37), 3) := by decide +kernel
theorem dX10_remainder_78 : decode cX10_remainder 78 = .ok (.aload_n 3, 1) := by decide +kernel
theorem dX10_remainder_79 : decode cX10_remainder 79 = .ok (.aload_n 0, 1) := by decide +kernel
theorem dX10_remainder_80 : decode cX10_remainder 80 = .ok (.getfield 71, 3) := by decide +kernel
theorem dX10_remainder_83 : decode cX10_remainder 83 = .ok (.invokestatic 221, 3) := by decide +kernel
theorem dX10_remainder_86 : decode cX10_remainder 86 = .ok (.ifCond .eq 6, 3) := by decide +kernel
theorem dX10_remainder_89 : decode cX10_remainder 89 = .ok (.goto 60, 3) := by decide +kernel
theorem dX10_remainder_92 : decode cX10_remainder 92 = .ok (.iconst 0, 1) := by decide +kernel
theorem dX10_remainder_93 : decode cX10_remainder 93 = .ok (.istore 6, 2) := by decide +kernel
theorem dX10_remainder_95 : decode cX10_remainder 95 = .ok (.iconst 0, 1) := by decide +kernel
theorem dX10_remainder_96 : decode cX10_remainder 96 = .ok (.istore 7, 2) := by decide +kernel
theorem dX10_remainder_98 : decode cX10_remainder 98 = .ok (.iload 7, 2) := by decide +kernel
theorem dX10_remainder_100 : decode cX10_remainder 100 = .ok (.bipush 33, 2) := by decide +kernel
theorem dX10_remainder_102 : decode cX10_remainder 102 = .ok (.if_icmp .ge 47, 3) := by decide +kernel
theorem dX10_remainder_105 : decode cX10_remainder 105 = .ok (.aload_n 3, 1) := by decide +kernel
theorem dX10_remainder_106 : decode cX10_remainder 106 = .ok (.iload 7, 2) := by decide +kernel
theorem dX10_remainder_108 : decode cX10_remainder 108 = .ok (.iaload, 1) := by decide +kernel
theorem dX10_remainder_109 : decode cX10_remainder 109 = .ok (.aload_n 0, 1) := by decide +kernel
theorem dX10_remainder_110 : decode cX10_remainder 110 = .ok (.getfield 71, 3) := by decide +kernel
theorem dX10_remainder_113 : decode cX10_remainder 113 = .ok (.iload 7, 2) := by decide +kernel
theorem dX10_remainder_115 : decode cX10_remainder 115 = .ok (.iaload, 1) := by decide +kernel
theorem dX10_remainder_116 : decode cX10_remainder 116 = .ok (.isub, 1) := by decide +kernel
theorem dX10_remainder_117 : decode cX10_remainder 117 = .ok (.iload 6, 2) := by decide +kernel
theorem dX10_remainder_119 : decode cX10_remainder 119 = .ok (.isub, 1) := by decide +kernel
theorem dX10_remainder_120 : decode cX10_remainder 120 = .ok (.istore 8, 2) := by decide +kernel
theorem dX10_remainder_122 : decode cX10_remainder 122 = .ok (.aload_n 3, 1) := by decide +kernel
theorem dX10_remainder_123 : decode cX10_remainder 123 = .ok (.iload 7, 2) := by decide +kernel
theorem dX10_remainder_125 : decode cX10_remainder 125 = .ok (.iload 8, 2) := by decide +kernel
theorem dX10_remainder_127 : decode cX10_remainder 127 = .ok (.ldc 220, 2) := by decide +kernel
theorem dX10_remainder_129 : decode cX10_remainder 129 = .ok (.iand, 1) := by decide +kernel
theorem dX10_remainder_130 : decode cX10_remainder 130 = .ok (.iastore, 1) := by decide +kernel
theorem dX10_remainder_131 : decode cX10_remainder 131 = .ok (.iload 8, 2) := by decide +kernel
theorem dX10_remainder_133 : decode cX10_remainder 133 = .ok (.ifCond .ge 7, 3) := by decide +kernel
theorem dX10_remainder_136 : decode cX10_remainder 136 = .ok (.iconst 1, 1) := by decide +kernel
theorem dX10_remainder_137 : decode cX10_remainder 137 = .ok (.goto 4, 3) := by decide +kernel
theorem dX10_remainder_140 : decode cX10_remainder 140 = .ok (.iconst 0, 1) := by decide +kernel
theorem dX10_remainder_141 : decode cX10_remainder 141 = .ok (.istore 6, 2) := by decide +kernel
theorem dX10_remainder_143 : decode cX10_remainder 143 = .ok (.iinc 7 1, 3) := by decide +kernel
theorem dX10_remainder_146 : decode cX10_remainder 146 = .ok (.goto (-48), 3) := by decide +kernel
theorem dX10_remainder_149 : decode cX10_remainder 149 = .ok (.iinc 4 (-1), 3) := by decide +kernel
theorem dX10_remainder_152 : decode cX10_remainder 152 = .ok (.goto (-139), 3) := by decide +kernel
theorem dX10_remainder_155 : decode cX10_remainder 155 = .ok (.return_, 1) := by decide +kernel
theorem hyX10_remainder : yX10_remainder.cls ≠ "java/lang/invoke/MethodHandle" ∧ yX10_remainder.cls ≠ "java/lang/invoke/VarHandle" ∧ (parseMethodDescriptor yX10_remainder.desc).map (fun d => d.parameters.length) = some 3 := by decide +kernel
abbrev J_X10_remainder_13 (E : gx_E) (v0 : Nat) (v1 : Nat) (v2 : Int32) (v3 : Nat) (v4 : Int32) (u : gx_S) : Prop := gx_Wc E 9 13 [(0, .ref (ex_ad E v0)), (1, .ref (ex_ad E v1)), (2, .int v2), (3, .ref (ex_ad E v3)), (4, .int v4)] [] u
abbrev J_X10_remainder_38 (E : gx_E) (v0 : Nat) (v1 : Nat) (v2 : Int32) (v3 : Nat) (v4 : Int32) (v5 : Int32) (v6 : Int32) (u : gx_S) : Prop := gx_Wc E 9 38 [(0, .ref (ex_ad E v0)), (1, .ref (ex_ad E v1)), (2, .int v2), (3, .ref (ex_ad E v3)), (4, .int v4), (5, .int v5), (6, .int v6)] [] u
abbrev J_X10_remainder_98 (E : gx_E) (v0 : Nat) (v1 : Nat) (v2 : Int32) (v3 : Nat) (v4 : Int32) (v5 : Int32) (v6 : Int32) (v7 : Int32) (u : gx_S) : Prop := gx_Wc E 9 98 [(0, .ref (ex_ad E v0)), (1, .ref (ex_ad E v1)), (2, .int v2), (3, .ref (ex_ad E v3)), (4, .int v4), (5, .int v5), (6, .int v6), (7, .int v7)] [] u
set_option maxHeartbeats 4000000 in
set_option maxRecDepth 100000 in
theorem w_X10_remainder_0 {E : gx_E} (X : gx_X E cX10_remainder 9 RX10 none) (hd : 1 ≤ ex_d E) {post : gx_S → Prop} (hQ : ex_Q E = va_Qv post (gx_B (ex_Z E)) (gx_A (ex_Z E))) {u : gx_S} {v0 : Nat} {v1 : Nat} {v2 : Int32} {v3 : Nat} (h : (S_J7_fill_53178 u v3 (0 : Int32) (fun (u1 : gx_S) => (∀ x2 : Int32, x2 = (((16 : Int32) * v2) - (1 : Int32)) → J_X10_remainder_13 E v0 v1 v2 v3 x2 u1)))) : gx_Wc E 9 0 [(0, .ref (ex_ad E v0)), (1, .ref (ex_ad E v1)), (2, .int v2), (3, .ref (ex_ad E v3))] [] u := by
  refine gx_aload_n X (j := 3) dX10_remainder_0 rfl rfl ?_
  refine gx_iconst X (v := 0) dX10_remainder_1 (by decide) ?_
  refine gx_kv (gx_rS X (c_J7_fill_53178 h) (Nat.le_trans (by decide) hd) (Nat.le_trans (by decide) (Nat.mul_le_mul_left 40 hd)) mw_758 mw_759 mw_15 mw_760 hyJ7_fill_53178 (As := [.ref (ex_ad E v3), .int (0 : Int32)]) (rest := []) rfl rfl (Nat.le_of_ble_eq_true rfl) dX10_remainder_2) (fun u1 h => ?_)
  refine gx_bipush X (v := 16) dX10_remainder_5 (by decide) ?_
  refine gx_iload_n X (j := 2) dX10_remainder_7 rfl rfl ?_
  refine gx_imul X dX10_remainder_8 ?_
  refine gx_iconst X (v := 1) dX10_remainder_9 (by decide) ?_
  refine gx_isub X dX10_remainder_10 ?_
  refine gx_nami (fun x2 ex2 => ?_)
  replace h := h x2 ex2
  refine gx_istore X (lv' := [(4, .int x2), (0, .ref (ex_ad E v0)), (1, .ref (ex_ad E v1)), (2, .int v2), (3, .ref (ex_ad E v3))]) dX10_remainder_11 (by decide) rfl ?_
  exact gx_sub [1, 2, 3, 4, 0] rfl h
set_option maxHeartbeats 4000000 in
set_option maxRecDepth 100000 in
theorem w_X10_remainder_13 {E : gx_E} (X : gx_X E cX10_remainder 9 RX10 none) (hd : 1 ≤ ex_d E) {post : gx_S → Prop} (hQ : ex_Q E = va_Qv post (gx_B (ex_Z E)) (gx_A (ex_Z E))) {u : gx_S} {v0 : Nat} {v1 : Nat} {v2 : Int32} {v3 : Nat} {v4 : Int32} (h : ((v4 < 0 → post u) ∧ (¬ v4 < 0 → (gx_isR v1 .int ∧ vp_in (v4 / (16 : Int32)) (gx_len v1) ∧ (∀ x3 : Int32, x3 = (((gx_a u v1 (v4 / (16 : Int32)).toNatClampNeg) >>> ((v4 - v4 / (16 : Int32) * (16 : Int32)) &&& 31)) &&& (1 : Int32)) → J_X10_remainder_38 E v0 v1 v2 v3 v4 x3 (0 : Int32) u))))) : gx_Wc E 9 13 [(0, .ref (ex_ad E v0)), (1, .ref (ex_ad E v1)), (2, .int v2), (3, .ref (ex_ad E v3)), (4, .int v4)] [] u := by
  refine gx_iload X (j := 4) dX10_remainder_13 rfl ?_
  refine gx_if_lt X (tgt := 155) dX10_remainder_15 (by decide) (fun c4 => ?_) (fun c4 => ?_)
  · replace h := h.1 c4
    exact gx_vret X hQ h dX10_remainder_155
  · replace h := h.2 c4
    refine gx_aload_n X (j := 1) dX10_remainder_18 rfl rfl ?_
    refine gx_iload X (j := 4) dX10_remainder_19 rfl ?_
    refine gx_bipush X (v := 16) dX10_remainder_21 (by decide) ?_
    refine gx_idiv X dX10_remainder_23 (by decide) ?_
    obtain ⟨k1, h⟩ := h
    obtain ⟨k2, h⟩ := h
    refine gx_iald X k1 k2 dX10_remainder_24 ?_
    refine gx_iload X (j := 4) dX10_remainder_25 rfl ?_
    refine gx_bipush X (v := 16) dX10_remainder_27 (by decide) ?_
    refine gx_irem X dX10_remainder_29 (by decide) ?_
    refine gx_ishr X dX10_remainder_30 ?_
    refine gx_iconst X (v := 1) dX10_remainder_31 (by decide) ?_
    refine gx_iand X dX10_remainder_32 ?_
    refine gx_nami (fun x3 ex3 => ?_)
    replace h := h x3 ex3
    refine gx_istore X (lv' := [(5, .int x3), (0, .ref (ex_ad E v0)), (1, .ref (ex_ad E v1)), (2, .int v2), (3, .ref (ex_ad E v3)), (4, .int v4)]) dX10_remainder_33 (by decide) rfl ?_
    refine gx_iconst X (v := 0) dX10_remainder_35 (by decide) ?_
    refine gx_istore X (lv' := [(6, .int (0 : Int32)), (5, .int x3), (0, .ref (ex_ad E v0)), (1, .ref (ex_ad E v1)), (2, .int v2), (3, .ref (ex_ad E v3)), (4, .int v4)]) dX10_remainder_36 (by decide) rfl ?_
    exact gx_sub [2, 3, 4, 5, 6, 1, 0] rfl h
set_option maxHeartbeats 4000000 in
set_option maxRecDepth 100000 in
theorem w_X10_remainder_38 {E : gx_E} (X : gx_X E cX10_remainder 9 RX10 none) (hd : 1 ≤ ex_d E) {post : gx_S → Prop} (hQ : ex_Q E = va_Qv post (gx_B (ex_Z E)) (gx_A (ex_Z E))) {u : gx_S} {v0 : Nat} {v1 : Nat} {v2 : Int32} {v3 : Nat} {v4 : Int32} {v5 : Int32} {v6 : Int32} (h : (((33 : Int32) ≤ v6 → (gx_isO v0 9 ∧ (S_X10_isBelow u v3 (gx_r u v0 20) (fun (r3 : Int32) (u2 : gx_S) => ((r3 = 0 → J_X10_remainder_98 E v0 v1 v2 v3 v4 v5 (0 : Int32) (0 : Int32) u2) ∧ (¬ r3 = 0 → (∀ x4 : Int32, x4 = v4 + (-1) → J_X10_remainder_13 E v0 v1 v2 v3 x4 u2))))))) ∧ (¬ (33 : Int32) ≤ v6 → (gx_isR v3 .int ∧ vp_in v6 (gx_len v3) ∧ (∀ x8 : Int32, x8 = (((gx_a u v3 v6.toNatClampNeg) <<< ((1 : Int32) &&& 31)) ||| v5) → (gx_isA v3 .int ∧ vp_in v6 (gx_len v3) ∧ ∀ u11 : gx_S, u11 = gx_pa u v3 (upd (gx_a u v3) v6.toNatClampNeg (x8 &&& (65535 : Int32))) → (∀ x12 : Int32, x12 = (x8 >>> ((16 : Int32) &&& 31)) → (∀ x13 : Int32, x13 = v6 + 1 → J_X10_remainder_38 E v0 v1 v2 v3 v4 x12 x13 u11)))))))) : gx_Wc E 9 38 [(0, .ref (ex_ad E v0)), (1, .ref (ex_ad E v1)), (2, .int v2), (3, .ref (ex_ad E v3)), (4, .int v4), (5, .int v5), (6, .int v6)] [] u := by
  refine gx_iload X (j := 6) dX10_remainder_38 rfl ?_
  refine gx_bipush X (v := 33) dX10_remainder_40 (by decide) ?_
  refine gx_icmp_ge X (tgt := 78) dX10_remainder_42 (by decide) (fun c14 => ?_) (fun c14 => ?_)
  · replace h := h.1 c14
    refine gx_aload_n X (j := 3) dX10_remainder_78 rfl rfl ?_
    refine gx_aload_n X (j := 0) dX10_remainder_79 rfl rfl ?_
    obtain ⟨k1, h⟩ := h
    refine gx_get X k1 rfl iwX10 20 (by decide) mw_541 (v := .ref (ex_ad E (gx_r u v0 20))) rfl dX10_remainder_80 ?_
    refine gx_ki (gx_rS X (c_X10_isBelow h) (Nat.le_trans (by decide) hd) (Nat.le_trans (by decide) (Nat.mul_le_mul_left 40 hd)) mw_766 mw_767 mw_7 mw_768 hyX10_isBelow (As := [.ref (ex_ad E v3), .ref (ex_ad E (gx_r u v0 20))]) (rest := []) rfl rfl (Nat.le_of_ble_eq_true rfl) dX10_remainder_83) (fun r3 u2 h => ?_)
    refine gx_if_eq X (tgt := 92) dX10_remainder_86 (by decide) (fun c5 => ?_) (fun c5 => ?_)
    · replace h := h.1 c5
      refine gx_iconst X (v := 0) dX10_remainder_92 (by decide) ?_
      refine gx_istore X (lv' := [(6, .int (0 : Int32)), (0, .ref (ex_ad E v0)), (1, .ref (ex_ad E v1)), (2, .int v2), (3, .ref (ex_ad E v3)), (4, .int v4), (5, .int v5)]) dX10_remainder_93 (by decide) rfl ?_
      refine gx_iconst X (v := 0) dX10_remainder_95 (by decide) ?_
      refine gx_istore X (lv' := [(7, .int (0 : Int32)), (6, .int (0 : Int32)), (0, .ref (ex_ad E v0)), (1, .ref (ex_ad E v1)), (2, .int v2), (3, .ref (ex_ad E v3)), (4, .int v4), (5, .int v5)]) dX10_remainder_96 (by decide) rfl ?_
      exact gx_sub [2, 3, 4, 5, 6, 7, 1, 0] rfl h
    · replace h := h.2 c5
      refine gx_goto X (tgt := 149) dX10_remainder_89 (by decide) ?_
      obtain ⟨x4, ex4⟩ : ∃ y : Int32, y = v4 + (-1) := ⟨_, rfl⟩
      replace h := h x4 ex4
      refine gx_iinc X (v := x4) (lv' := [(4, .int x4), (0, .ref (ex_ad E v0)), (1, .ref (ex_ad E v1)), (2, .int v2), (3, .ref (ex_ad E v3)), (5, .int v5), (6, .int v6)]) dX10_remainder_149 (j := 4) rfl (by rw [ex4]; rfl) (by decide) rfl ?_
      refine gx_goto X (tgt := 13) dX10_remainder_152 (by decide) ?_
      exact gx_sub [1, 2, 3, 4, 0] rfl h
  · replace h := h.2 c14
    refine gx_aload_n X (j := 3) dX10_remainder_45 rfl rfl ?_
    refine gx_iload X (j := 6) dX10_remainder_46 rfl ?_
    obtain ⟨k6, h⟩ := h
    obtain ⟨k7, h⟩ := h
    refine gx_iald X k6 k7 dX10_remainder_48 ?_
    refine gx_iconst X (v := 1) dX10_remainder_49 (by decide) ?_
    refine gx_ishl X dX10_remainder_50 ?_
    refine gx_iload X (j := 5) dX10_remainder_51 rfl ?_
    refine gx_ior X dX10_remainder_53 ?_
    refine gx_nami (fun x8 ex8 => ?_)
    replace h := h x8 ex8
    refine gx_istore X (lv' := [(7, .int x8), (0, .ref (ex_ad E v0)), (1, .ref (ex_ad E v1)), (2, .int v2), (3, .ref (ex_ad E v3)), (4, .int v4), (5, .int v5), (6, .int v6)]) dX10_remainder_54 (by decide) rfl ?_
    refine gx_aload_n X (j := 4) dX10_remainder_56 rfl rfl ?_
    refine gx_iload X (j := 7) dX10_remainder_57 rfl ?_
    refine gx_iload X (j := 0) dX10_remainder_59 rfl ?_
    refine gx_ldc X (v := 65535) mw_765 dX10_remainder_61 ?_
    refine gx_iand X dX10_remainder_63 ?_
    obtain ⟨k9, h⟩ := h
    obtain ⟨k10, h⟩ := h
    refine gx_iast X k9 k10 dX10_remainder_64 ?_
    refine gx_nams (fun u11 eu11 => ?_)
    replace h := h u11 eu11
    refine gx_iload X (j := 0) dX10_remainder_65 rfl ?_
    refine gx_bipush X (v := 16) dX10_remainder_67 (by decide) ?_
    refine gx_ishr X dX10_remainder_69 ?_
    refine gx_nami (fun x12 ex12 => ?_)
    replace h := h x12 ex12
    refine gx_istore X (lv' := [(5, .int x12), (7, .int x8), (0, .ref (ex_ad E v0)), (1, .ref (ex_ad E v1)), (2, .int v2), (3, .ref (ex_ad E v3)), (4, .int v4), (6, .int v6)]) dX10_remainder_70 (by decide) rfl ?_
    obtain ⟨x13, ex13⟩ : ∃ y : Int32, y = v6 + 1 := ⟨_, rfl⟩
    replace h := h x13 ex13
    refine gx_iinc X (v := x13) (lv' := [(6, .int x13), (5, .int x12), (7, .int x8), (0, .ref (ex_ad E v0)), (1, .ref (ex_ad E v1)), (2, .int v2), (3, .ref (ex_ad E v3)), (4, .int v4)]) dX10_remainder_72 (j := 7) rfl (by rw [ex13]; rfl) (by decide) rfl ?_
    refine gx_goto X (tgt := 38) dX10_remainder_75 (by decide) ?_
    exact gx_sub [3, 4, 5, 6, 7, 1, 0] rfl h
set_option maxHeartbeats 4000000 in
set_option maxRecDepth 100000 in
theorem w_X10_remainder_98 {E : gx_E} (X : gx_X E cX10_remainder 9 RX10 none) (hd : 1 ≤ ex_d E) {post : gx_S → Prop} (hQ : ex_Q E = va_Qv post (gx_B (ex_Z E)) (gx_A (ex_Z E))) {u : gx_S} {v0 : Nat} {v1 : Nat} {v2 : Int32} {v3 : Nat} {v4 : Int32} {v5 : Int32} {v6 : Int32} {v7 : Int32} (h : (((33 : Int32) ≤ v7 → (∀ x1 : Int32, x1 = v4 + (-1) → J_X10_remainder_13 E v0 v1 v2 v3 x1 u)) ∧ (¬ (33 : Int32) ≤ v7 → (gx_isR v3 .int ∧ vp_in v7 (gx_len v3) ∧ (gx_isO v0 9 ∧ (gx_isR (gx_r u v0 20) .int ∧ vp_in v7 (gx_len (gx_r u v0 20)) ∧ (∀ x7 : Int32, x7 = (((gx_a u v3 v7.toNatClampNeg) - (gx_a u (gx_r u v0 20) v7.toNatClampNeg)) - v6) → (gx_isA v3 .int ∧ vp_in v7 (gx_len v3) ∧ ∀ u10 : gx_S, u10 = gx_pa u v3 (upd (gx_a u v3) v7.toNatClampNeg (x7 &&& (65535 : Int32))) → ((0 ≤ x7 → (∀ x11 : Int32, x11 = v7 + 1 → J_X10_remainder_98 E v0 v1 v2 v3 v4 v5 (0 : Int32) x11 u10)) ∧ (¬ 0 ≤ x7 → (∀ x12 : Int32, x12 = v7 + 1 → J_X10_remainder_98 E v0 v1 v2 v3 v4 v5 (1 : Int32) x12 u10))))))))))) : gx_Wc E 9 98 [(0, .ref (ex_ad E v0)), (1, .ref (ex_ad E v1)), (2, .int v2), (3, .ref (ex_ad E v3)), (4, .int v4), (5, .int v5), (6, .int v6), (7, .int v7)] [] u := by
  refine gx_iload X (j := 7) dX10_remainder_98 rfl ?_
  refine gx_bipush X (v := 33) dX10_remainder_100 (by decide) ?_
  refine gx_icmp_ge X (tgt := 149) dX10_remainder_102 (by decide) (fun c14 => ?_) (fun c14 => ?_)
  · replace h := h.1 c14
    obtain ⟨x1, ex1⟩ : ∃ y : Int32, y = v4 + (-1) := ⟨_, rfl⟩
    replace h := h x1 ex1
    refine gx_iinc X (v := x1) (lv' := [(4, .int x1), (0, .ref (ex_ad E v0)), (1, .ref (ex_ad E v1)), (2, .int v2), (3, .ref (ex_ad E v3)), (5, .int v5), (6, .int v6), (7, .int v7)]) dX10_remainder_149 (j := 4) rfl (by rw [ex1]; rfl) (by decide) rfl ?_
    refine gx_goto X (tgt := 13) dX10_remainder_152 (by decide) ?_
    exact gx_sub [1, 2, 3, 4, 0] rfl h
  · replace h := h.2 c14
    refine gx_aload_n X (j := 3) dX10_remainder_105 rfl rfl ?_
    refine gx_iload X (j := 7) dX10_remainder_106 rfl ?_
    obtain ⟨k2, h⟩ := h
    obtain ⟨k3, h⟩ := h
    refine gx_iald X k2 k3 dX10_remainder_108 ?_
    refine gx_aload_n X (j := 0) dX10_remainder_109 rfl rfl ?_
    obtain ⟨k4, h⟩ := h
    refine gx_get X k4 rfl iwX10 20 (by decide) mw_541 (v := .ref (ex_ad E (gx_r u v0 20))) rfl dX10_remainder_110 ?_
    refine gx_iload X (j := 7) dX10_remainder_113 rfl ?_
    obtain ⟨k5, h⟩ := h
    obtain ⟨k6, h⟩ := h
    refine gx_iald X k5 k6 dX10_remainder_115 ?_
    refine gx_isub X dX10_remainder_116 ?_
    refine gx_iload X (j := 6) dX10_remainder_117 rfl ?_
    refine gx_isub X dX10_remainder_119 ?_
    refine gx_nami (fun x7 ex7 => ?_)
    replace h := h x7 ex7
    refine gx_istore X (lv' := [(8, .int x7), (0, .ref (ex_ad E v0)), (1, .ref (ex_ad E v1)), (2, .int v2), (3, .ref (ex_ad E v3)), (4, .int v4), (5, .int v5), (6, .int v6), (7, .int v7)]) dX10_remainder_120 (by decide) rfl ?_
    refine gx_aload_n X (j := 4) dX10_remainder_122 rfl rfl ?_
    refine gx_iload X (j := 8) dX10_remainder_123 rfl ?_
    refine gx_iload X (j := 0) dX10_remainder_125 rfl ?_
    refine gx_ldc X (v := 65535) mw_765 dX10_remainder_127 ?_
    refine gx_iand X dX10_remainder_129 ?_
    obtain ⟨k8, h⟩ := h
    obtain ⟨k9, h⟩ := h
    refine gx_iast X k8 k9 dX10_remainder_130 ?_
    refine gx_nams (fun u10 eu10 => ?_)
    replace h := h u10 eu10
    refine gx_iload X (j := 0) dX10_remainder_131 rfl ?_
    refine gx_if_ge X (tgt := 140) dX10_remainder_133 (by decide) (fun c13 => ?_) (fun c13 => ?_)
    · replace h := h.1 c13
      refine gx_iconst X (v := 0) dX10_remainder_140 (by decide) ?_
      refine gx_istore X (lv' := [(6, .int (0 : Int32)), (8, .int x7), (0, .ref (ex_ad E v0)), (1, .ref (ex_ad E v1)), (2, .int v2), (3, .ref (ex_ad E v3)), (4, .int v4), (5, .int v5), (7, .int v7)]) dX10_remainder_141 (by decide) rfl ?_
      obtain ⟨x11, ex11⟩ : ∃ y : Int32, y = v7 + 1 := ⟨_, rfl⟩
      replace h := h x11 ex11
      refine gx_iinc X (v := x11) (lv' := [(7, .int x11), (6, .int (0 : Int32)), (8, .int x7), (0, .ref (ex_ad E v0)), (1, .ref (ex_ad E v1)), (2, .int v2), (3, .ref (ex_ad E v3)), (4, .int v4), (5, .int v5)]) dX10_remainder_143 (j := 8) rfl (by rw [ex11]; rfl) (by decide) rfl ?_
      refine gx_goto X (tgt := 98) dX10_remainder_146 (by decide) ?_
      exact gx_sub [3, 4, 5, 6, 7, 8, 1, 0] rfl h
    · replace h := h.2 c13
      refine gx_iconst X (v := 1) dX10_remainder_136 (by decide) ?_
      refine gx_goto X (tgt := 141) dX10_remainder_137 (by decide) ?_
      refine gx_istore X (lv' := [(6, .int (1 : Int32)), (8, .int x7), (0, .ref (ex_ad E v0)), (1, .ref (ex_ad E v1)), (2, .int v2), (3, .ref (ex_ad E v3)), (4, .int v4), (5, .int v5), (7, .int v7)]) dX10_remainder_141 (by decide) rfl ?_
      obtain ⟨x12, ex12⟩ : ∃ y : Int32, y = v7 + 1 := ⟨_, rfl⟩
      replace h := h x12 ex12
      refine gx_iinc X (v := x12) (lv' := [(7, .int x12), (6, .int (1 : Int32)), (8, .int x7), (0, .ref (ex_ad E v0)), (1, .ref (ex_ad E v1)), (2, .int v2), (3, .ref (ex_ad E v3)), (4, .int v4), (5, .int v5)]) dX10_remainder_143 (j := 8) rfl (by rw [ex12]; rfl) (by decide) rfl ?_
      refine gx_goto X (tgt := 98) dX10_remainder_146 (by decide) ?_
      exact gx_sub [3, 4, 5, 6, 7, 8, 1, 0] rfl h
-- remainder
theorem shrN {a k : Nat} (ha : a < 2 ^ 31) (hk : k < 32) : nI a >>> (nI k &&& 31) = nI (a / 2 ^ k) := by
  apply Int32.toInt_inj.mp
  have h1 := pk_shr (nI a) (nI k &&& 31) k (sl_ k hk)
  have h2 : a / 2 ^ k ≤ a := Nat.div_le_self _ _
  rw [h1, nI_toInt ha, nI_toInt (by omega), Int.shiftRight_eq_div_pow]
  norm_cast
theorem bit_vA {a : Nat → Int32} {n b : Nat} (ha : okD a n) (hb : b < 16 * n) : dv (a (b / 16)) / 2 ^ (b % 16) % 2 = vA a n / 2 ^ b % 2 := by
  have hq : b / 16 < n := by omega
  have h1 := vA_sl a (b / 16) (n - b / 16)
  rw [show b / 16 + (n - b / 16) = n by omega] at h1
  have h2 := vA_lt (b / 16) (a := a) (fun j hj => ha j (by omega))
  have h3 := vA_sl (sl a (b / 16)) 1 (n - b / 16 - 1)
  rw [show 1 + (n - b / 16 - 1) = n - b / 16 by omega, vA_s, vA_0, Nat.pow_zero, Nat.zero_add, Nat.mul_one, Nat.pow_one] at h3
  have h4 : sl a (b / 16) 0 = a (b / 16) := rfl
  rw [h4] at h3
  generalize vA (sl (sl a (b / 16)) 1) (n - b / 16 - 1) = rest at h3
  have e1 : vA a n / 65536 ^ (b / 16) = dv (a (b / 16)) + 65536 * rest := by
    rw [h1, Nat.add_mul_div_left _ _ (Nat.pow_pos (by omega)), Nat.div_eq_of_lt h2, Nat.zero_add, h3]
  have e2 : 2 ^ b = 65536 ^ (b / 16) * 2 ^ (b % 16) := by
    rw [show (65536 : Nat) = 2 ^ 16 from rfl, ← Nat.pow_mul, ← Nat.pow_add]
    congr 1
    omega
  rw [e2, ← Nat.div_div_eq_div_mul, e1]
  have hr : b % 16 < 16 := Nat.mod_lt _ (by omega)
  generalize b % 16 = r at hr ⊢
  have e3 : 65536 = 2 ^ r * (2 * 2 ^ (15 - r)) := by
    rw [Nat.mul_left_comm, ← Nat.pow_add, show r + (15 - r) = 15 by omega]
  rw [e3, Nat.mul_assoc, Nat.add_mul_div_left _ _ (Nat.two_pow_pos r), Nat.mul_assoc]
  omega
theorem shl1_or {a c : Nat} (ha : a < 65536) (hc : c < 2) : (nI a <<< ((1 : Int32) &&& 31)) ||| nI c = nI (2 * a + c) := by
  rw [pk_shlN ((1 : Int32) &&& 31) 1 (by decide) (by omega), nI_or (by omega) (by omega), show a * 2 ^ 1 = 2 ^ 1 * a by omega, ← Nat.two_pow_add_eq_or_of_lt (by omega)]
theorem and16 (x : Int32) : x &&& (65535 : Int32) = nI (dv x % 65536) := pk_and x 16 (by decide)
theorem dv_sub3 {a m b : Nat} (ha : a < 65536) (hm : m < 65536) (hb : b < 2) : dv (nI a - nI m - nI b) % 65536 = (a + 131072 - m - b) % 65536 ∧ (0 ≤ nI a - nI m - nI b ↔ m + b ≤ a) := by
  have e : (nI a - nI m - nI b).toInt = (a : Int) - m - b := by
    have h1 : (nI a - nI m).toInt = (a : Int) - m := by
      rw [Int32.toInt_sub, nI_toInt (by omega), nI_toInt (by omega)]
      exact Int.bmod_eq_of_le (by omega) (by omega)
    rw [Int32.toInt_sub, h1, nI_toInt (by omega)]
    exact Int.bmod_eq_of_le (by omega) (by omega)
  constructor
  · have h4 := BitVec.toInt_eq_toNat_cond (nI a - nI m - nI b).toBitVec
    have e2 : (nI a - nI m - nI b).toBitVec.toInt = (a : Int) - m - b := e
    rw [e2] at h4
    have := i32_lt (nI a - nI m - nI b)
    unfold dv
    split at h4 <;> omega
  · rw [Int32.le_iff_toInt_le, e, show (0 : Int32).toInt = 0 from rfl]
    omega
theorem isA52 : gx_isA 52 .int := ⟨by decide, rfl⟩
theorem isA53 : gx_isA 53 .int := ⟨by decide, rfl⟩
theorem isA54 : gx_isA 54 .int := ⟨by decide, rfl⟩
theorem isA55 : gx_isA 55 .int := ⟨by decide, rfl⟩
theorem isA56 : gx_isA 56 .int := ⟨by decide, rfl⟩
theorem isA58 : gx_isA 58 .byte := ⟨by decide, rfl⟩
theorem isA59 : gx_isA 59 .byte := ⟨by decide, rfl⟩
def S_X10_remainder (u : gx_S) (v0 v1 : Nat) (v2 : Int32) (v3 : Nat) (post : gx_S → Prop) : Prop := v0 = 21 ∧ v3 = 53 ∧ ∃ t n N : Nat, N = 33 ∧ mfix t u ∧ gx_isR v1 .int ∧ n ≤ 64 ∧ n ≤ gx_len v1 ∧ gx_len v1 ≤ 100 ∧ v1 ≠ 53 ∧ v2 = nI n ∧ okD (gx_a u v1) n ∧ okD (gx_a u 52) N ∧ 0 < vA (gx_a u 52) N ∧ 2 * vA (gx_a u 52) N ≤ 65536 ^ N ∧ ∀ v, exA [53] u v → okD (gx_a v 53) N → vA (gx_a v 53) N = vA (gx_a u v1) n % vA (gx_a u 52) N → post v
theorem sub_fin {x m a b P : Nat} (h : x + m = a + b * P) (hx : x < P) (hge : m ≤ a) (hb : b < 2) : x + m = a := by
  have : b = 0 ∨ b = 1 := by omega
  rcases this with rfl | rfl <;> omega
theorem st_sub {x m a dA dM b b' r P : Nat} (he : x + m = a + b * P) (h : dA + b' * 65536 = dM + b + r) : x + r * P + (m + dM * P) = a + dA * P + b' * (65536 * P) := by
  have h5 := congrArg (· * P) h
  simp only [Nat.add_mul, Nat.mul_assoc] at h5
  omega
theorem shl_fin {x c a c0 P : Nat} (he : x + c * P = 2 * a + c0) (hlt : 2 * a + c0 < P) (hc : c < 2) : x = 2 * a + c0 := by
  have : c = 0 ∨ c = 1 := by omega
  rcases this with rfl | rfl <;> omega
theorem st_shl {x a d c c' r P c0 : Nat} (he : x + c * P = 2 * a + c0) (h : r + c' * 65536 = 2 * d + c) : x + r * P + c' * (65536 * P) = 2 * (a + d * P) + c0 := by
  have h5 := congrArg (· * P) h
  simp only [Nat.add_mul, Nat.mul_assoc] at h5
  omega
theorem md_s {V M k R' R : Nat} (hM : 0 < M) (hR : R = V / 2 ^ (k + 1) % M) (h : R' = 2 * R + V / 2 ^ k % 2 ∧ R' < M ∨ R' + M = 2 * R + V / 2 ^ k % 2) : R' = V / 2 ^ k % M := by
  have e1 : V / 2 ^ k = 2 * (V / 2 ^ (k + 1)) + V / 2 ^ k % 2 := by
    rw [Nat.pow_succ, ← Nat.div_div_eq_div_mul]
    omega
  have hRM : R < M := by rw [hR]; exact Nat.mod_lt _ hM
  have e2 : V / 2 ^ k % M = (2 * R + V / 2 ^ k % 2) % M := by
    conv => lhs; rw [e1]
    rw [hR, Nat.add_mod, Nat.mul_mod 2 (V / 2 ^ (k + 1)), Nat.add_mod (2 * (V / 2 ^ (k + 1) % M)), Nat.mul_mod 2 (V / 2 ^ (k + 1) % M), Nat.mod_mod]
  rw [e2]
  rcases h with ⟨h1, h2⟩ | h1
  · rw [← h1, Nat.mod_eq_of_lt h2]
  · rw [← h1, Nat.add_mod_right, Nat.mod_eq_of_lt]
    omega

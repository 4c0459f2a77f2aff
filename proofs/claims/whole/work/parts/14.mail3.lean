-- PlainSeal$Mail.writeBody(ZLPlainSeal$Bytes;)V
theorem dX1_writeBody_0 : decode cX1_writeBody 0 = .ok (.iconst 0, 1) := by decide +kernel
theorem dX1_writeBody_1 : decode cX1_writeBody 1 = .ok (.istore_n 3, 1) := by decide +kernel
theorem dX1_writeBody_2 : decode cX1_writeBody 2 = .ok (.iconst 0, 1) := by decide +kernel
theorem dX1_writeBody_3 : decode cX1_writeBody 3 = .ok (.istore 4, 2) := by decide +kernel
theorem dX1_writeBody_5 : decode cX1_writeBody 5 = .ok (.aload_n 2, 1) := by decide +kernel
theorem dX1_writeBody_6 : decode cX1_writeBody 6 = .ok (.invokevirtual 76, 3) := by decide +kernel
theorem dX1_writeBody_9 : decode cX1_writeBody 9 = .ok (.aload_n 0, 1) := by decide +kernel
theorem dX1_writeBody_10 : decode cX1_writeBody 10 = .ok (.getfield 18, 3) := by decide +kernel
theorem dX1_writeBody_13 : decode cX1_writeBody 13 = .ok (.aload_n 0, 1) := by decide +kernel
theorem dX1_writeBody_14 : decode cX1_writeBody 14 = .ok (.getfield 22, 3) := by decide +kernel
theorem dX1_writeBody_17 : decode cX1_writeBody 17 = .ok (.iaload, 1) := by decide +kernel
theorem dX1_writeBody_18 : decode cX1_writeBody 18 = .ok (.iconst 1, 1) := by decide +kernel
theorem dX1_writeBody_19 : decode cX1_writeBody 19 = .ok (.iadd, 1) := by decide +kernel
theorem dX1_writeBody_20 : decode cX1_writeBody 20 = .ok (.istore 5, 2) := by decide +kernel
theorem dX1_writeBody_22 : decode cX1_writeBody 22 = .ok (.iload 5, 2) := by decide +kernel
theorem dX1_writeBody_24 : decode cX1_writeBody 24 = .ok (.aload_n 0, 1) := by decide +kernel
theorem dX1_writeBody_25 : decode cX1_writeBody 25 = .ok (.getfield 12, 3) := by decide +kernel
theorem dX1_writeBody_28 : decode cX1_writeBody 28 = .ok (.invokevirtual 45, 3) := by decide +kernel
theorem dX1_writeBody_31 : decode cX1_writeBody 31 = .ok (.if_icmp .ge 88, 3) := by decide +kernel
theorem dX1_writeBody_34 : decode cX1_writeBody 34 = .ok (.aload_n 0, 1) := by decide +kernel
theorem dX1_writeBody_35 : decode cX1_writeBody 35 = .ok (.getfield 12, 3) := by decide +kernel
theorem dX1_writeBody_38 : decode cX1_writeBody 38 = .ok (.iload 5, 2) := by decide +kernel
theorem dX1_writeBody_40 : decode cX1_writeBody 40 = .ok (.invokevirtual 49, 3) := by decide +kernel
theorem dX1_writeBody_43 : decode cX1_writeBody 43 = .ok (.istore 6, 2) := by decide +kernel
theorem dX1_writeBody_45 : decode cX1_writeBody 45 = .ok (.iload 6, 2) := by decide +kernel
theorem dX1_writeBody_47 : decode cX1_writeBody 47 = .ok (.bipush 10, 2) := by decide +kernel
theorem dX1_writeBody_49 : decode cX1_writeBody 49 = .ok (.if_icmp .ne 12, 3) := by decide +kernel
theorem dX1_writeBody_52 : decode cX1_writeBody 52 = .ok (.iinc 3 1, 3) := by decide +kernel
theorem dX1_writeBody_55 : decode cX1_writeBody 55 = .ok (.iconst 0, 1) := by decide +kernel
theorem dX1_writeBody_56 : decode cX1_writeBody 56 = .ok (.istore 4, 2) := by decide +kernel
theorem dX1_writeBody_58 : decode cX1_writeBody 58 = .ok (.goto 55, 3) := by decide +kernel
theorem dX1_writeBody_61 : decode cX1_writeBody 61 = .ok (.iload_n 1, 1) := by decide +kernel
theorem dX1_writeBody_62 : decode cX1_writeBody 62 = .ok (.ifCond .eq 17, 3) := by decide +kernel
theorem dX1_writeBody_65 : decode cX1_writeBody 65 = .ok (.iload 6, 2) := by decide +kernel
theorem dX1_writeBody_67 : decode cX1_writeBody 67 = .ok (.invokestatic 66, 3) := by decide +kernel
theorem dX1_writeBody_70 : decode cX1_writeBody 70 = .ok (.ifCond .eq 9, 3) := by decide +kernel
theorem dX1_writeBody_73 : decode cX1_writeBody 73 = .ok (.iconst 1, 1) := by decide +kernel
theorem dX1_writeBody_74 : decode cX1_writeBody 74 = .ok (.istore 4, 2) := by decide +kernel
theorem dX1_writeBody_76 : decode cX1_writeBody 76 = .ok (.goto 37, 3) := by decide +kernel
theorem dX1_writeBody_79 : decode cX1_writeBody 79 = .ok (.aload_n 2, 1) := by decide +kernel
theorem dX1_writeBody_80 : decode cX1_writeBody 80 = .ok (.bipush 10, 2) := by decide +kernel
theorem dX1_writeBody_82 : decode cX1_writeBody 82 = .ok (.iload_n 3, 1) := by decide +kernel
theorem dX1_writeBody_83 : decode cX1_writeBody 83 = .ok (.invokevirtual 79, 3) := by decide +kernel
theorem dX1_writeBody_86 : decode cX1_writeBody 86 = .ok (.aload_n 2, 1) := by decide +kernel
theorem dX1_writeBody_87 : decode cX1_writeBody 87 = .ok (.bipush 32, 2) := by decide +kernel
theorem dX1_writeBody_89 : decode cX1_writeBody 89 = .ok (.iload 4, 2) := by decide +kernel
theorem dX1_writeBody_91 : decode cX1_writeBody 91 = .ok (.ifCond .eq 7, 3) := by decide +kernel
theorem dX1_writeBody_94 : decode cX1_writeBody 94 = .ok (.iconst 1, 1) := by decide +kernel
theorem dX1_writeBody_95 : decode cX1_writeBody 95 = .ok (.goto 4, 3) := by decide +kernel
theorem dX1_writeBody_98 : decode cX1_writeBody 98 = .ok (.iconst 0, 1) := by decide +kernel
theorem dX1_writeBody_99 : decode cX1_writeBody 99 = .ok (.invokevirtual 79, 3) := by decide +kernel
theorem dX1_writeBody_102 : decode cX1_writeBody 102 = .ok (.aload_n 2, 1) := by decide +kernel
theorem dX1_writeBody_103 : decode cX1_writeBody 103 = .ok (.iload 6, 2) := by decide +kernel
theorem dX1_writeBody_105 : decode cX1_writeBody 105 = .ok (.invokevirtual 83, 3) := by decide +kernel
theorem dX1_writeBody_108 : decode cX1_writeBody 108 = .ok (.iconst 0, 1) := by decide +kernel
theorem dX1_writeBody_109 : decode cX1_writeBody 109 = .ok (.istore_n 3, 1) := by decide +kernel
theorem dX1_writeBody_110 : decode cX1_writeBody 110 = .ok (.iconst 0, 1) := by decide +kernel
theorem dX1_writeBody_111 : decode cX1_writeBody 111 = .ok (.istore 4, 2) := by decide +kernel
theorem dX1_writeBody_113 : decode cX1_writeBody 113 = .ok (.iinc 5 1, 3) := by decide +kernel
theorem dX1_writeBody_116 : decode cX1_writeBody 116 = .ok (.goto (-94), 3) := by decide +kernel
theorem dX1_writeBody_119 : decode cX1_writeBody 119 = .ok (.iload_n 1, 1) := by decide +kernel
theorem dX1_writeBody_120 : decode cX1_writeBody 120 = .ok (.ifCond .eq 10, 3) := by decide +kernel
theorem dX1_writeBody_123 : decode cX1_writeBody 123 = .ok (.aload_n 2, 1) := by decide +kernel
theorem dX1_writeBody_124 : decode cX1_writeBody 124 = .ok (.invokevirtual 45, 3) := by decide +kernel
theorem dX1_writeBody_127 : decode cX1_writeBody 127 = .ok (.ifCond .le 9, 3) := by decide +kernel
theorem dX1_writeBody_130 : decode cX1_writeBody 130 = .ok (.aload_n 2, 1) := by decide +kernel
theorem dX1_writeBody_131 : decode cX1_writeBody 131 = .ok (.bipush 10, 2) := by decide +kernel
theorem dX1_writeBody_133 : decode cX1_writeBody 133 = .ok (.invokevirtual 83, 3) := by decide +kernel
theorem dX1_writeBody_136 : decode cX1_writeBody 136 = .ok (.return_, 1) := by decide +kernel
theorem hyX1_writeBody : yX1_writeBody.cls ≠ "java/lang/invoke/MethodHandle" ∧ yX1_writeBody.cls ≠ "java/lang/invoke/VarHandle" ∧ (parseMethodDescriptor yX1_writeBody.desc).map (fun d => d.parameters.length) = some 2 := by decide +kernel
abbrev J_X1_writeBody_22 (E : gx_E) (v0 : Nat) (v1 : Int32) (v2 : Nat) (v3 : Int32) (v4 : Int32) (v5 : Int32) (u : gx_S) : Prop := gx_Wc E 7 22 [(0, .ref (ex_ad E v0)), (1, .int v1), (2, .ref (ex_ad E v2)), (3, .int v3), (4, .int v4), (5, .int v5)] [] u
set_option maxHeartbeats 4000000 in
set_option maxRecDepth 100000 in
theorem w_X1_writeBody_0 {E : gx_E} (X : gx_X E cX1_writeBody 7 RX1 none) (hd : 2 ≤ ex_d E) {post : gx_S → Prop} (hQ : ex_Q E = va_Qv post (gx_B (ex_Z E)) (gx_A (ex_Z E))) {u : gx_S} {v0 : Nat} {v1 : Int32} {v2 : Nat} (h : (gx_isO v2 0 ∧ S_X0_clear u v2 (fun (u2 : gx_S) => (gx_isO v0 1 ∧ (gx_isR (gx_r u2 v0 1) .int ∧ vp_in (gx_i u2 v0 2) (gx_len (gx_r u2 v0 1)) ∧ (∀ x6 : Int32, x6 = ((gx_a u2 (gx_r u2 v0 1) (gx_i u2 v0 2).toNatClampNeg) + (1 : Int32)) → J_X1_writeBody_22 E v0 v1 v2 (0 : Int32) (0 : Int32) x6 u2)))))) : gx_Wc E 7 0 [(0, .ref (ex_ad E v0)), (1, .int v1), (2, .ref (ex_ad E v2))] [] u := by
  refine gx_iconst X (v := 0) dX1_writeBody_0 (by decide) ?_
  refine gx_istore_n X (lv' := [(3, .int (0 : Int32)), (0, .ref (ex_ad E v0)), (1, .int v1), (2, .ref (ex_ad E v2))]) dX1_writeBody_1 rfl (by decide) rfl ?_
  refine gx_iconst X (v := 0) dX1_writeBody_2 (by decide) ?_
  refine gx_istore X (lv' := [(4, .int (0 : Int32)), (3, .int (0 : Int32)), (0, .ref (ex_ad E v0)), (1, .int v1), (2, .ref (ex_ad E v2))]) dX1_writeBody_3 (by decide) rfl ?_
  refine gx_aload_n X (j := 4) dX1_writeBody_5 rfl rfl ?_
  obtain ⟨k1, h⟩ := h
  refine gx_kv (gx_rV X (c_X0_clear h) (Nat.le_trans (by decide) hd) (Nat.le_trans (by decide) (Nat.mul_le_mul_left 40 hd)) k1 rfl mw_213 mw_192 mw_193 mw_2 mw_194 hyX0_clear (As := []) (rest := []) rfl rfl (Nat.le_of_ble_eq_true rfl) dX1_writeBody_6) (fun u2 h => ?_)
  refine gx_aload_n X (j := 2) dX1_writeBody_9 rfl rfl ?_
  obtain ⟨k3, h⟩ := h
  refine gx_get X k3 rfl iwX1 1 (by decide) mw_47 (v := .ref (ex_ad E (gx_r u2 v0 1))) rfl dX1_writeBody_10 ?_
  refine gx_aload_n X (j := 2) dX1_writeBody_13 rfl rfl ?_
  refine gx_get X k3 rfl iwX1 2 (by decide) mw_48 (v := .int (gx_i u2 v0 2)) rfl dX1_writeBody_14 ?_
  obtain ⟨k4, h⟩ := h
  obtain ⟨k5, h⟩ := h
  refine gx_iald X k4 k5 dX1_writeBody_17 ?_
  refine gx_iconst X (v := 1) dX1_writeBody_18 (by decide) ?_
  refine gx_iadd X dX1_writeBody_19 ?_
  refine gx_nami (fun x6 ex6 => ?_)
  replace h := h x6 ex6
  refine gx_istore X (lv' := [(5, .int x6), (4, .int (0 : Int32)), (3, .int (0 : Int32)), (0, .ref (ex_ad E v0)), (1, .int v1), (2, .ref (ex_ad E v2))]) dX1_writeBody_20 (by decide) rfl ?_
  exact gx_sub [3, 4, 5, 2, 1, 0] rfl h
set_option maxHeartbeats 4000000 in
set_option maxRecDepth 100000 in
theorem w_X1_writeBody_22 {E : gx_E} (X : gx_X E cX1_writeBody 7 RX1 none) (hd : 2 ≤ ex_d E) {post : gx_S → Prop} (hQ : ex_Q E = va_Qv post (gx_B (ex_Z E)) (gx_A (ex_Z E))) {u : gx_S} {v0 : Nat} {v1 : Int32} {v2 : Nat} {v3 : Int32} {v4 : Int32} {v5 : Int32} (h : (gx_isO v0 1 ∧ (gx_isO (gx_r u v0 0) 0 ∧ S_X0_size u (gx_r u v0 0) (fun (r4 : Int32) (u3 : gx_S) => ((r4 ≤ v5 → ((v1 = 0 → (gx_isO v2 0 ∧ S_X0_add u3 v2 (10 : Int32) (fun (u6 : gx_S) => post u6))) ∧ (¬ v1 = 0 → (gx_isO v2 0 ∧ S_X0_size u3 v2 (fun (r9 : Int32) (u8 : gx_S) => ((r9 ≤ 0 → post u8) ∧ (¬ r9 ≤ 0 → (S_X0_add u8 v2 (10 : Int32) (fun (u10 : gx_S) => post u10))))))))) ∧ (¬ r4 ≤ v5 → (gx_isO (gx_r u3 v0 0) 0 ∧ S_X0_at u3 (gx_r u3 v0 0) v5 (fun (r15 : Int32) (u14 : gx_S) => ((¬ r15 = (10 : Int32) → ((v1 = 0 → (gx_isO v2 0 ∧ S_X0_addTimes u14 v2 (10 : Int32) v3 (fun (u17 : gx_S) => ((v4 = 0 → (S_X0_addTimes u17 v2 (32 : Int32) (0 : Int32) (fun (u18 : gx_S) => (S_X0_add u18 v2 r15 (fun (u19 : gx_S) => (∀ x20 : Int32, x20 = v5 + 1 → J_X1_writeBody_22 E v0 v1 v2 (0 : Int32) (0 : Int32) x20 u19)))))) ∧ (¬ v4 = 0 → (S_X0_addTimes u17 v2 (32 : Int32) (1 : Int32) (fun (u21 : gx_S) => (S_X0_add u21 v2 r15 (fun (u22 : gx_S) => (∀ x23 : Int32, x23 = v5 + 1 → J_X1_writeBody_22 E v0 v1 v2 (0 : Int32) (0 : Int32) x23 u22)))))))))) ∧ (¬ v1 = 0 → (S_X6_isWhite u14 r15 (fun (r26 : Int32) (u25 : gx_S) => ((r26 = 0 → (gx_isO v2 0 ∧ S_X0_addTimes u25 v2 (10 : Int32) v3 (fun (u28 : gx_S) => ((v4 = 0 → (S_X0_addTimes u28 v2 (32 : Int32) (0 : Int32) (fun (u29 : gx_S) => (S_X0_add u29 v2 r15 (fun (u30 : gx_S) => (∀ x31 : Int32, x31 = v5 + 1 → J_X1_writeBody_22 E v0 v1 v2 (0 : Int32) (0 : Int32) x31 u30)))))) ∧ (¬ v4 = 0 → (S_X0_addTimes u28 v2 (32 : Int32) (1 : Int32) (fun (u32 : gx_S) => (S_X0_add u32 v2 r15 (fun (u33 : gx_S) => (∀ x34 : Int32, x34 = v5 + 1 → J_X1_writeBody_22 E v0 v1 v2 (0 : Int32) (0 : Int32) x34 u33)))))))))) ∧ (¬ r26 = 0 → (∀ x36 : Int32, x36 = v5 + 1 → J_X1_writeBody_22 E v0 v1 v2 v3 (1 : Int32) x36 u25)))))))) ∧ (r15 = (10 : Int32) → (∀ x39 : Int32, x39 = v3 + 1 → (∀ x40 : Int32, x40 = v5 + 1 → J_X1_writeBody_22 E v0 v1 v2 x39 (0 : Int32) x40 u14)))))))))))) : gx_Wc E 7 22 [(0, .ref (ex_ad E v0)), (1, .int v1), (2, .ref (ex_ad E v2)), (3, .int v3), (4, .int v4), (5, .int v5)] [] u := by
  refine gx_iload X (j := 5) dX1_writeBody_22 rfl ?_
  refine gx_aload_n X (j := 0) dX1_writeBody_24 rfl rfl ?_
  obtain ⟨k1, h⟩ := h
  refine gx_get X k1 rfl iwX1 0 (by decide) mw_46 (v := .ref (ex_ad E (gx_r u v0 0))) rfl dX1_writeBody_25 ?_
  obtain ⟨k2, h⟩ := h
  refine gx_ki (gx_rV X (c_X0_size h) (Nat.le_trans (by decide) hd) (Nat.le_trans (by decide) (Nat.mul_le_mul_left 40 hd)) k2 rfl mw_161 mw_128 mw_129 mw_2 mw_130 hyX0_size (As := []) (rest := [.int v5]) rfl rfl (Nat.le_of_ble_eq_true rfl) dX1_writeBody_28) (fun r4 u3 h => ?_)
  refine gx_icmp_ge X (tgt := 119) dX1_writeBody_31 (by decide) (fun c42 => ?_) (fun c42 => ?_)
  · replace h := h.1 c42
    refine gx_iload_n X (j := 1) dX1_writeBody_119 rfl rfl ?_
    refine gx_if_eq X (tgt := 130) dX1_writeBody_120 (by decide) (fun c12 => ?_) (fun c12 => ?_)
    · replace h := h.1 c12
      refine gx_aload_n X (j := 2) dX1_writeBody_130 rfl rfl ?_
      refine gx_bipush X (v := 10) dX1_writeBody_131 (by decide) ?_
      obtain ⟨k5, h⟩ := h
      refine gx_kv (gx_rV X (c_X0_add h) (Nat.le_trans (by decide) hd) (Nat.le_trans (by decide) (Nat.mul_le_mul_left 40 hd)) k5 rfl mw_218 mw_136 mw_137 mw_2 mw_138 hyX0_add (As := [.int (10 : Int32)]) (rest := []) rfl rfl (Nat.le_of_ble_eq_true rfl) dX1_writeBody_133) (fun u6 h => ?_)
      exact gx_vret X hQ h dX1_writeBody_136
    · replace h := h.2 c12
      refine gx_aload_n X (j := 2) dX1_writeBody_123 rfl rfl ?_
      obtain ⟨k7, h⟩ := h
      refine gx_ki (gx_rV X (c_X0_size h) (Nat.le_trans (by decide) hd) (Nat.le_trans (by decide) (Nat.mul_le_mul_left 40 hd)) k7 rfl mw_161 mw_128 mw_129 mw_2 mw_130 hyX0_size (As := []) (rest := []) rfl rfl (Nat.le_of_ble_eq_true rfl) dX1_writeBody_124) (fun r9 u8 h => ?_)
      refine gx_if_le X (tgt := 136) dX1_writeBody_127 (by decide) (fun c11 => ?_) (fun c11 => ?_)
      · replace h := h.1 c11
        exact gx_vret X hQ h dX1_writeBody_136
      · replace h := h.2 c11
        refine gx_aload_n X (j := 2) dX1_writeBody_130 rfl rfl ?_
        refine gx_bipush X (v := 10) dX1_writeBody_131 (by decide) ?_
        refine gx_kv (gx_rV X (c_X0_add h) (Nat.le_trans (by decide) hd) (Nat.le_trans (by decide) (Nat.mul_le_mul_left 40 hd)) k7 rfl mw_218 mw_136 mw_137 mw_2 mw_138 hyX0_add (As := [.int (10 : Int32)]) (rest := []) rfl rfl (Nat.le_of_ble_eq_true rfl) dX1_writeBody_133) (fun u10 h => ?_)
        exact gx_vret X hQ h dX1_writeBody_136
  · replace h := h.2 c42
    refine gx_aload_n X (j := 0) dX1_writeBody_34 rfl rfl ?_
    refine gx_get X k1 rfl iwX1 0 (by decide) mw_46 (v := .ref (ex_ad E (gx_r u3 v0 0))) rfl dX1_writeBody_35 ?_
    refine gx_iload X (j := 5) dX1_writeBody_38 rfl ?_
    obtain ⟨k13, h⟩ := h
    refine gx_ki (gx_rV X (c_X0_at h) (Nat.le_trans (by decide) hd) (Nat.le_trans (by decide) (Nat.mul_le_mul_left 40 hd)) k13 rfl mw_162 mw_163 mw_164 mw_2 mw_165 hyX0_at (As := [.int v5]) (rest := []) rfl rfl (Nat.le_of_ble_eq_true rfl) dX1_writeBody_40) (fun r15 u14 h => ?_)
    refine gx_istore X (lv' := [(6, .int r15), (0, .ref (ex_ad E v0)), (1, .int v1), (2, .ref (ex_ad E v2)), (3, .int v3), (4, .int v4), (5, .int v5)]) dX1_writeBody_43 (by decide) rfl ?_
    refine gx_iload X (j := 0) dX1_writeBody_45 rfl ?_
    refine gx_bipush X (v := 10) dX1_writeBody_47 (by decide) ?_
    refine gx_icmp_ne X (tgt := 61) dX1_writeBody_49 (by decide) (fun c41 => ?_) (fun c41 => ?_)
    · replace h := h.1 c41
      refine gx_iload_n X (j := 2) dX1_writeBody_61 rfl rfl ?_
      refine gx_if_eq X (tgt := 79) dX1_writeBody_62 (by decide) (fun c38 => ?_) (fun c38 => ?_)
      · replace h := h.1 c38
        refine gx_aload_n X (j := 3) dX1_writeBody_79 rfl rfl ?_
        refine gx_bipush X (v := 10) dX1_writeBody_80 (by decide) ?_
        refine gx_iload_n X (j := 4) dX1_writeBody_82 rfl rfl ?_
        obtain ⟨k16, h⟩ := h
        refine gx_kv (gx_rV X (c_X0_addTimes h) (Nat.le_trans (by decide) hd) (Nat.le_trans (by decide) (Nat.mul_le_mul_left 40 hd)) k16 rfl mw_214 mw_215 mw_216 mw_2 mw_217 hyX0_addTimes (As := [.int (10 : Int32), .int v3]) (rest := []) rfl rfl (Nat.le_of_ble_eq_true rfl) dX1_writeBody_83) (fun u17 h => ?_)
        refine gx_aload_n X (j := 3) dX1_writeBody_86 rfl rfl ?_
        refine gx_bipush X (v := 32) dX1_writeBody_87 (by decide) ?_
        refine gx_iload X (j := 5) dX1_writeBody_89 rfl ?_
        refine gx_if_eq X (tgt := 98) dX1_writeBody_91 (by decide) (fun c24 => ?_) (fun c24 => ?_)
        · replace h := h.1 c24
          refine gx_iconst X (v := 0) dX1_writeBody_98 (by decide) ?_
          refine gx_kv (gx_rV X (c_X0_addTimes h) (Nat.le_trans (by decide) hd) (Nat.le_trans (by decide) (Nat.mul_le_mul_left 40 hd)) k16 rfl mw_214 mw_215 mw_216 mw_2 mw_217 hyX0_addTimes (As := [.int (32 : Int32), .int (0 : Int32)]) (rest := []) rfl rfl (Nat.le_of_ble_eq_true rfl) dX1_writeBody_99) (fun u18 h => ?_)
          refine gx_aload_n X (j := 3) dX1_writeBody_102 rfl rfl ?_
          refine gx_iload X (j := 0) dX1_writeBody_103 rfl ?_
          refine gx_kv (gx_rV X (c_X0_add h) (Nat.le_trans (by decide) hd) (Nat.le_trans (by decide) (Nat.mul_le_mul_left 40 hd)) k16 rfl mw_218 mw_136 mw_137 mw_2 mw_138 hyX0_add (As := [.int r15]) (rest := []) rfl rfl (Nat.le_of_ble_eq_true rfl) dX1_writeBody_105) (fun u19 h => ?_)
          refine gx_iconst X (v := 0) dX1_writeBody_108 (by decide) ?_
          refine gx_istore_n X (lv' := [(3, .int (0 : Int32)), (6, .int r15), (0, .ref (ex_ad E v0)), (1, .int v1), (2, .ref (ex_ad E v2)), (4, .int v4), (5, .int v5)]) dX1_writeBody_109 rfl (by decide) rfl ?_
          refine gx_iconst X (v := 0) dX1_writeBody_110 (by decide) ?_
          refine gx_istore X (lv' := [(4, .int (0 : Int32)), (3, .int (0 : Int32)), (6, .int r15), (0, .ref (ex_ad E v0)), (1, .int v1), (2, .ref (ex_ad E v2)), (5, .int v5)]) dX1_writeBody_111 (by decide) rfl ?_
          obtain ⟨x20, ex20⟩ : ∃ y : Int32, y = v5 + 1 := ⟨_, rfl⟩
          replace h := h x20 ex20
          refine gx_iinc X (v := x20) (lv' := [(5, .int x20), (4, .int (0 : Int32)), (3, .int (0 : Int32)), (6, .int r15), (0, .ref (ex_ad E v0)), (1, .int v1), (2, .ref (ex_ad E v2))]) dX1_writeBody_113 (j := 6) rfl (by rw [ex20]; rfl) (by decide) rfl ?_
          refine gx_goto X (tgt := 22) dX1_writeBody_116 (by decide) ?_
          exact gx_sub [4, 5, 6, 2, 1, 0] rfl h
        · replace h := h.2 c24
          refine gx_iconst X (v := 1) dX1_writeBody_94 (by decide) ?_
          refine gx_goto X (tgt := 99) dX1_writeBody_95 (by decide) ?_
          refine gx_kv (gx_rV X (c_X0_addTimes h) (Nat.le_trans (by decide) hd) (Nat.le_trans (by decide) (Nat.mul_le_mul_left 40 hd)) k16 rfl mw_214 mw_215 mw_216 mw_2 mw_217 hyX0_addTimes (As := [.int (32 : Int32), .int (1 : Int32)]) (rest := []) rfl rfl (Nat.le_of_ble_eq_true rfl) dX1_writeBody_99) (fun u21 h => ?_)
          refine gx_aload_n X (j := 3) dX1_writeBody_102 rfl rfl ?_
          refine gx_iload X (j := 0) dX1_writeBody_103 rfl ?_
          refine gx_kv (gx_rV X (c_X0_add h) (Nat.le_trans (by decide) hd) (Nat.le_trans (by decide) (Nat.mul_le_mul_left 40 hd)) k16 rfl mw_218 mw_136 mw_137 mw_2 mw_138 hyX0_add (As := [.int r15]) (rest := []) rfl rfl (Nat.le_of_ble_eq_true rfl) dX1_writeBody_105) (fun u22 h => ?_)
          refine gx_iconst X (v := 0) dX1_writeBody_108 (by decide) ?_
          refine gx_istore_n X (lv' := [(3, .int (0 : Int32)), (6, .int r15), (0, .ref (ex_ad E v0)), (1, .int v1), (2, .ref (ex_ad E v2)), (4, .int v4), (5, .int v5)]) dX1_writeBody_109 rfl (by decide) rfl ?_
          refine gx_iconst X (v := 0) dX1_writeBody_110 (by decide) ?_
          refine gx_istore X (lv' := [(4, .int (0 : Int32)), (3, .int (0 : Int32)), (6, .int r15), (0, .ref (ex_ad E v0)), (1, .int v1), (2, .ref (ex_ad E v2)), (5, .int v5)]) dX1_writeBody_111 (by decide) rfl ?_
          obtain ⟨x23, ex23⟩ : ∃ y : Int32, y = v5 + 1 := ⟨_, rfl⟩
          replace h := h x23 ex23
          refine gx_iinc X (v := x23) (lv' := [(5, .int x23), (4, .int (0 : Int32)), (3, .int (0 : Int32)), (6, .int r15), (0, .ref (ex_ad E v0)), (1, .int v1), (2, .ref (ex_ad E v2))]) dX1_writeBody_113 (j := 6) rfl (by rw [ex23]; rfl) (by decide) rfl ?_
          refine gx_goto X (tgt := 22) dX1_writeBody_116 (by decide) ?_
          exact gx_sub [4, 5, 6, 2, 1, 0] rfl h
      · replace h := h.2 c38
        refine gx_iload X (j := 0) dX1_writeBody_65 rfl ?_
        refine gx_ki (gx_rSN X (c_X6_isWhite h) (Nat.le_trans (by decide) hd) (Nat.le_trans (by decide) (Nat.mul_le_mul_left 40 hd)) mn_3 mw_185 mw_1 mw_186 hyX6_isWhite (As := [.int r15]) (rest := []) rfl rfl (Nat.le_of_ble_eq_true rfl) dX1_writeBody_67) (fun r26 u25 h => ?_)
        refine gx_if_eq X (tgt := 79) dX1_writeBody_70 (by decide) (fun c37 => ?_) (fun c37 => ?_)
        · replace h := h.1 c37
          refine gx_aload_n X (j := 3) dX1_writeBody_79 rfl rfl ?_
          refine gx_bipush X (v := 10) dX1_writeBody_80 (by decide) ?_
          refine gx_iload_n X (j := 4) dX1_writeBody_82 rfl rfl ?_
          obtain ⟨k27, h⟩ := h
          refine gx_kv (gx_rV X (c_X0_addTimes h) (Nat.le_trans (by decide) hd) (Nat.le_trans (by decide) (Nat.mul_le_mul_left 40 hd)) k27 rfl mw_214 mw_215 mw_216 mw_2 mw_217 hyX0_addTimes (As := [.int (10 : Int32), .int v3]) (rest := []) rfl rfl (Nat.le_of_ble_eq_true rfl) dX1_writeBody_83) (fun u28 h => ?_)
          refine gx_aload_n X (j := 3) dX1_writeBody_86 rfl rfl ?_
          refine gx_bipush X (v := 32) dX1_writeBody_87 (by decide) ?_
          refine gx_iload X (j := 5) dX1_writeBody_89 rfl ?_
          refine gx_if_eq X (tgt := 98) dX1_writeBody_91 (by decide) (fun c35 => ?_) (fun c35 => ?_)
          · replace h := h.1 c35
            refine gx_iconst X (v := 0) dX1_writeBody_98 (by decide) ?_
            refine gx_kv (gx_rV X (c_X0_addTimes h) (Nat.le_trans (by decide) hd) (Nat.le_trans (by decide) (Nat.mul_le_mul_left 40 hd)) k27 rfl mw_214 mw_215 mw_216 mw_2 mw_217 hyX0_addTimes (As := [.int (32 : Int32), .int (0 : Int32)]) (rest := []) rfl rfl (Nat.le_of_ble_eq_true rfl) dX1_writeBody_99) (fun u29 h => ?_)
            refine gx_aload_n X (j := 3) dX1_writeBody_102 rfl rfl ?_
            refine gx_iload X (j := 0) dX1_writeBody_103 rfl ?_
            refine gx_kv (gx_rV X (c_X0_add h) (Nat.le_trans (by decide) hd) (Nat.le_trans (by decide) (Nat.mul_le_mul_left 40 hd)) k27 rfl mw_218 mw_136 mw_137 mw_2 mw_138 hyX0_add (As := [.int r15]) (rest := []) rfl rfl (Nat.le_of_ble_eq_true rfl) dX1_writeBody_105) (fun u30 h => ?_)
            refine gx_iconst X (v := 0) dX1_writeBody_108 (by decide) ?_
            refine gx_istore_n X (lv' := [(3, .int (0 : Int32)), (6, .int r15), (0, .ref (ex_ad E v0)), (1, .int v1), (2, .ref (ex_ad E v2)), (4, .int v4), (5, .int v5)]) dX1_writeBody_109 rfl (by decide) rfl ?_
            refine gx_iconst X (v := 0) dX1_writeBody_110 (by decide) ?_
            refine gx_istore X (lv' := [(4, .int (0 : Int32)), (3, .int (0 : Int32)), (6, .int r15), (0, .ref (ex_ad E v0)), (1, .int v1), (2, .ref (ex_ad E v2)), (5, .int v5)]) dX1_writeBody_111 (by decide) rfl ?_
            obtain ⟨x31, ex31⟩ : ∃ y : Int32, y = v5 + 1 := ⟨_, rfl⟩
            replace h := h x31 ex31
            refine gx_iinc X (v := x31) (lv' := [(5, .int x31), (4, .int (0 : Int32)), (3, .int (0 : Int32)), (6, .int r15), (0, .ref (ex_ad E v0)), (1, .int v1), (2, .ref (ex_ad E v2))]) dX1_writeBody_113 (j := 6) rfl (by rw [ex31]; rfl) (by decide) rfl ?_
            refine gx_goto X (tgt := 22) dX1_writeBody_116 (by decide) ?_
            exact gx_sub [4, 5, 6, 2, 1, 0] rfl h
          · replace h := h.2 c35
            refine gx_iconst X (v := 1) dX1_writeBody_94 (by decide) ?_
            refine gx_goto X (tgt := 99) dX1_writeBody_95 (by decide) ?_
            refine gx_kv (gx_rV X (c_X0_addTimes h) (Nat.le_trans (by decide) hd) (Nat.le_trans (by decide) (Nat.mul_le_mul_left 40 hd)) k27 rfl mw_214 mw_215 mw_216 mw_2 mw_217 hyX0_addTimes (As := [.int (32 : Int32), .int (1 : Int32)]) (rest := []) rfl rfl (Nat.le_of_ble_eq_true rfl) dX1_writeBody_99) (fun u32 h => ?_)
            refine gx_aload_n X (j := 3) dX1_writeBody_102 rfl rfl ?_
            refine gx_iload X (j := 0) dX1_writeBody_103 rfl ?_
            refine gx_kv (gx_rV X (c_X0_add h) (Nat.le_trans (by decide) hd) (Nat.le_trans (by decide) (Nat.mul_le_mul_left 40 hd)) k27 rfl mw_218 mw_136 mw_137 mw_2 mw_138 hyX0_add (As := [.int r15]) (rest := []) rfl rfl (Nat.le_of_ble_eq_true rfl) dX1_writeBody_105) (fun u33 h => ?_)
            refine gx_iconst X (v := 0) dX1_writeBody_108 (by decide) ?_
            refine gx_istore_n X (lv' := [(3, .int (0 : Int32)), (6, .int r15), (0, .ref (ex_ad E v0)), (1, .int v1), (2, .ref (ex_ad E v2)), (4, .int v4), (5, .int v5)]) dX1_writeBody_109 rfl (by decide) rfl ?_
            refine gx_iconst X (v := 0) dX1_writeBody_110 (by decide) ?_
            refine gx_istore X (lv' := [(4, .int (0 : Int32)), (3, .int (0 : Int32)), (6, .int r15), (0, .ref (ex_ad E v0)), (1, .int v1), (2, .ref (ex_ad E v2)), (5, .int v5)]) dX1_writeBody_111 (by decide) rfl ?_
            obtain ⟨x34, ex34⟩ : ∃ y : Int32, y = v5 + 1 := ⟨_, rfl⟩
            replace h := h x34 ex34
            refine gx_iinc X (v := x34) (lv' := [(5, .int x34), (4, .int (0 : Int32)), (3, .int (0 : Int32)), (6, .int r15), (0, .ref (ex_ad E v0)), (1, .int v1), (2, .ref (ex_ad E v2))]) dX1_writeBody_113 (j := 6) rfl (by rw [ex34]; rfl) (by decide) rfl ?_
            refine gx_goto X (tgt := 22) dX1_writeBody_116 (by decide) ?_
            exact gx_sub [4, 5, 6, 2, 1, 0] rfl h
        · replace h := h.2 c37
          refine gx_iconst X (v := 1) dX1_writeBody_73 (by decide) ?_
          refine gx_istore X (lv' := [(4, .int (1 : Int32)), (6, .int r15), (0, .ref (ex_ad E v0)), (1, .int v1), (2, .ref (ex_ad E v2)), (3, .int v3), (5, .int v5)]) dX1_writeBody_74 (by decide) rfl ?_
          refine gx_goto X (tgt := 113) dX1_writeBody_76 (by decide) ?_
          obtain ⟨x36, ex36⟩ : ∃ y : Int32, y = v5 + 1 := ⟨_, rfl⟩
          replace h := h x36 ex36
          refine gx_iinc X (v := x36) (lv' := [(5, .int x36), (4, .int (1 : Int32)), (6, .int r15), (0, .ref (ex_ad E v0)), (1, .int v1), (2, .ref (ex_ad E v2)), (3, .int v3)]) dX1_writeBody_113 (j := 6) rfl (by rw [ex36]; rfl) (by decide) rfl ?_
          refine gx_goto X (tgt := 22) dX1_writeBody_116 (by decide) ?_
          exact gx_sub [3, 4, 5, 6, 1, 0] rfl h
    · replace h := h.2 c41
      obtain ⟨x39, ex39⟩ : ∃ y : Int32, y = v3 + 1 := ⟨_, rfl⟩
      replace h := h x39 ex39
      refine gx_iinc X (v := x39) (lv' := [(3, .int x39), (6, .int r15), (0, .ref (ex_ad E v0)), (1, .int v1), (2, .ref (ex_ad E v2)), (4, .int v4), (5, .int v5)]) dX1_writeBody_52 (j := 4) rfl (by rw [ex39]; rfl) (by decide) rfl ?_
      refine gx_iconst X (v := 0) dX1_writeBody_55 (by decide) ?_
      refine gx_istore X (lv' := [(4, .int (0 : Int32)), (3, .int x39), (6, .int r15), (0, .ref (ex_ad E v0)), (1, .int v1), (2, .ref (ex_ad E v2)), (5, .int v5)]) dX1_writeBody_56 (by decide) rfl ?_
      refine gx_goto X (tgt := 113) dX1_writeBody_58 (by decide) ?_
      obtain ⟨x40, ex40⟩ : ∃ y : Int32, y = v5 + 1 := ⟨_, rfl⟩
      replace h := h x40 ex40
      refine gx_iinc X (v := x40) (lv' := [(5, .int x40), (4, .int (0 : Int32)), (3, .int x39), (6, .int r15), (0, .ref (ex_ad E v0)), (1, .int v1), (2, .ref (ex_ad E v2))]) dX1_writeBody_113 (j := 6) rfl (by rw [ex40]; rfl) (by decide) rfl ?_
      refine gx_goto X (tgt := 22) dX1_writeBody_116 (by decide) ?_
      exact gx_sub [4, 5, 6, 2, 1, 0] rfl h
-- PlainSeal$Mail.addRelaxedValue(IILPlainSeal$Bytes;)V
theorem dX1_addRelaxedValue_0 : decode cX1_addRelaxedValue 0 = .ok (.aload_n 3, 1) := by decide +kernel
theorem dX1_addRelaxedValue_1 : decode cX1_addRelaxedValue 1 = .ok (.invokevirtual 45, 3) := by decide +kernel
theorem dX1_addRelaxedValue_4 : decode cX1_addRelaxedValue 4 = .ok (.istore 4, 2) := by decide +kernel
theorem dX1_addRelaxedValue_6 : decode cX1_addRelaxedValue 6 = .ok (.iconst 0, 1) := by decide +kernel
theorem dX1_addRelaxedValue_7 : decode cX1_addRelaxedValue 7 = .ok (.istore 5, 2) := by decide +kernel
theorem dX1_addRelaxedValue_9 : decode cX1_addRelaxedValue 9 = .ok (.iload_n 1, 1) := by decide +kernel
theorem dX1_addRelaxedValue_10 : decode cX1_addRelaxedValue 10 = .ok (.istore 6, 2) := by decide +kernel
theorem dX1_addRelaxedValue_12 : decode cX1_addRelaxedValue 12 = .ok (.iload 6, 2) := by decide +kernel
theorem dX1_addRelaxedValue_14 : decode cX1_addRelaxedValue 14 = .ok (.iload_n 2, 1) := by decide +kernel
theorem dX1_addRelaxedValue_15 : decode cX1_addRelaxedValue 15 = .ok (.if_icmp .ge 75, 3) := by decide +kernel
theorem dX1_addRelaxedValue_18 : decode cX1_addRelaxedValue 18 = .ok (.aload_n 0, 1) := by decide +kernel
theorem dX1_addRelaxedValue_19 : decode cX1_addRelaxedValue 19 = .ok (.getfield 12, 3) := by decide +kernel
theorem dX1_addRelaxedValue_22 : decode cX1_addRelaxedValue 22 = .ok (.iload 6, 2) := by decide +kernel
theorem dX1_addRelaxedValue_24 : decode cX1_addRelaxedValue 24 = .ok (.invokevirtual 49, 3) := by decide +kernel
theorem dX1_addRelaxedValue_27 : decode cX1_addRelaxedValue 27 = .ok (.istore 7, 2) := by decide +kernel
theorem dX1_addRelaxedValue_29 : decode cX1_addRelaxedValue 29 = .ok (.iload 7, 2) := by decide +kernel
theorem dX1_addRelaxedValue_31 : decode cX1_addRelaxedValue 31 = .ok (.invokestatic 66, 3) := by decide +kernel
theorem dX1_addRelaxedValue_34 : decode cX1_addRelaxedValue 34 = .ok (.ifCond .eq 9, 3) := by decide +kernel
theorem dX1_addRelaxedValue_37 : decode cX1_addRelaxedValue 37 = .ok (.iconst 1, 1) := by decide +kernel
theorem dX1_addRelaxedValue_38 : decode cX1_addRelaxedValue 38 = .ok (.istore 5, 2) := by decide +kernel
theorem dX1_addRelaxedValue_40 : decode cX1_addRelaxedValue 40 = .ok (.goto 44, 3) := by decide +kernel
theorem dX1_addRelaxedValue_43 : decode cX1_addRelaxedValue 43 = .ok (.iload 7, 2) := by decide +kernel
theorem dX1_addRelaxedValue_45 : decode cX1_addRelaxedValue 45 = .ok (.bipush 10, 2) := by decide +kernel
theorem dX1_addRelaxedValue_47 : decode cX1_addRelaxedValue 47 = .ok (.if_icmp .eq 37, 3) := by decide +kernel
theorem dX1_addRelaxedValue_50 : decode cX1_addRelaxedValue 50 = .ok (.aload_n 3, 1) := by decide +kernel
theorem dX1_addRelaxedValue_51 : decode cX1_addRelaxedValue 51 = .ok (.bipush 32, 2) := by decide +kernel
theorem dX1_addRelaxedValue_53 : decode cX1_addRelaxedValue 53 = .ok (.iload 5, 2) := by decide +kernel
theorem dX1_addRelaxedValue_55 : decode cX1_addRelaxedValue 55 = .ok (.ifCond .eq 16, 3) := by decide +kernel
theorem dX1_addRelaxedValue_58 : decode cX1_addRelaxedValue 58 = .ok (.aload_n 3, 1) := by decide +kernel
theorem dX1_addRelaxedValue_59 : decode cX1_addRelaxedValue 59 = .ok (.invokevirtual 45, 3) := by decide +kernel
theorem dX1_addRelaxedValue_62 : decode cX1_addRelaxedValue 62 = .ok (.iload 4, 2) := by decide +kernel
theorem dX1_addRelaxedValue_64 : decode cX1_addRelaxedValue 64 = .ok (.if_icmp .le 7, 3) := by decide +kernel
theorem dX1_addRelaxedValue_67 : decode cX1_addRelaxedValue 67 = .ok (.iconst 1, 1) := by decide +kernel
theorem dX1_addRelaxedValue_68 : decode cX1_addRelaxedValue 68 = .ok (.goto 4, 3) := by decide +kernel
theorem dX1_addRelaxedValue_71 : decode cX1_addRelaxedValue 71 = .ok (.iconst 0, 1) := by decide +kernel
theorem dX1_addRelaxedValue_72 : decode cX1_addRelaxedValue 72 = .ok (.invokevirtual 79, 3) := by decide +kernel
theorem dX1_addRelaxedValue_75 : decode cX1_addRelaxedValue 75 = .ok (.aload_n 3, 1) := by decide +kernel
theorem dX1_addRelaxedValue_76 : decode cX1_addRelaxedValue 76 = .ok (.iload 7, 2) := by decide +kernel
theorem dX1_addRelaxedValue_78 : decode cX1_addRelaxedValue 78 = .ok (.invokevirtual 83, 3) := by decide +kernel
theorem dX1_addRelaxedValue_81 : decode cX1_addRelaxedValue 81 = .ok (.iconst 0, 1) := by decide +kernel
theorem dX1_addRelaxedValue_82 : decode cX1_addRelaxedValue 82 = .ok (.istore 5, 2) := by decide +kernel
theorem dX1_addRelaxedValue_84 : decode cX1_addRelaxedValue 84 = .ok (.iinc 6 1, 3) := by decide +kernel
theorem dX1_addRelaxedValue_87 : decode cX1_addRelaxedValue 87 = .ok (.goto (-75), 3) := by decide +kernel
theorem dX1_addRelaxedValue_90 : decode cX1_addRelaxedValue 90 = .ok (.return_, 1) := by decide +kernel
theorem hyX1_addRelaxedValue : yX1_addRelaxedValue.cls ≠ "java/lang/invoke/MethodHandle" ∧ yX1_addRelaxedValue.cls ≠ "java/lang/invoke/VarHandle" ∧ (parseMethodDescriptor yX1_addRelaxedValue.desc).map (fun d => d.parameters.length) = some 3 := by decide +kernel
abbrev J_X1_addRelaxedValue_12 (E : gx_E) (v0 : Nat) (v1 : Int32) (v2 : Int32) (v3 : Nat) (v4 : Int32) (v5 : Int32) (v6 : Int32) (u : gx_S) : Prop := gx_Wc E 8 12 [(0, .ref (ex_ad E v0)), (1, .int v1), (2, .int v2), (3, .ref (ex_ad E v3)), (4, .int v4), (5, .int v5), (6, .int v6)] [] u
set_option maxHeartbeats 4000000 in
set_option maxRecDepth 100000 in
theorem w_X1_addRelaxedValue_0 {E : gx_E} (X : gx_X E cX1_addRelaxedValue 8 RX1 none) (hd : 2 ≤ ex_d E) {post : gx_S → Prop} (hQ : ex_Q E = va_Qv post (gx_B (ex_Z E)) (gx_A (ex_Z E))) {u : gx_S} {v0 : Nat} {v1 : Int32} {v2 : Int32} {v3 : Nat} (h : (gx_isO v3 0 ∧ S_X0_size u v3 (fun (r3 : Int32) (u2 : gx_S) => J_X1_addRelaxedValue_12 E v0 v1 v2 v3 r3 (0 : Int32) v1 u2))) : gx_Wc E 8 0 [(0, .ref (ex_ad E v0)), (1, .int v1), (2, .int v2), (3, .ref (ex_ad E v3))] [] u := by
  refine gx_aload_n X (j := 3) dX1_addRelaxedValue_0 rfl rfl ?_
  obtain ⟨k1, h⟩ := h
  refine gx_ki (gx_rV X (c_X0_size h) (Nat.le_trans (by decide) hd) (Nat.le_trans (by decide) (Nat.mul_le_mul_left 40 hd)) k1 rfl mw_161 mw_128 mw_129 mw_2 mw_130 hyX0_size (As := []) (rest := []) rfl rfl (Nat.le_of_ble_eq_true rfl) dX1_addRelaxedValue_1) (fun r3 u2 h => ?_)
  refine gx_istore X (lv' := [(4, .int r3), (0, .ref (ex_ad E v0)), (1, .int v1), (2, .int v2), (3, .ref (ex_ad E v3))]) dX1_addRelaxedValue_4 (by decide) rfl ?_
  refine gx_iconst X (v := 0) dX1_addRelaxedValue_6 (by decide) ?_
  refine gx_istore X (lv' := [(5, .int (0 : Int32)), (4, .int r3), (0, .ref (ex_ad E v0)), (1, .int v1), (2, .int v2), (3, .ref (ex_ad E v3))]) dX1_addRelaxedValue_7 (by decide) rfl ?_
  refine gx_iload_n X (j := 3) dX1_addRelaxedValue_9 rfl rfl ?_
  refine gx_istore X (lv' := [(6, .int v1), (5, .int (0 : Int32)), (4, .int r3), (0, .ref (ex_ad E v0)), (1, .int v1), (2, .int v2), (3, .ref (ex_ad E v3))]) dX1_addRelaxedValue_10 (by decide) rfl ?_
  exact gx_sub [3, 4, 5, 6, 2, 1, 0] rfl h
set_option maxHeartbeats 4000000 in
set_option maxRecDepth 100000 in
theorem w_X1_addRelaxedValue_12 {E : gx_E} (X : gx_X E cX1_addRelaxedValue 8 RX1 none) (hd : 2 ≤ ex_d E) {post : gx_S → Prop} (hQ : ex_Q E = va_Qv post (gx_B (ex_Z E)) (gx_A (ex_Z E))) {u : gx_S} {v0 : Nat} {v1 : Int32} {v2 : Int32} {v3 : Nat} {v4 : Int32} {v5 : Int32} {v6 : Int32} (h : ((v2 ≤ v6 → post u) ∧ (¬ v2 ≤ v6 → (gx_isO v0 1 ∧ (gx_isO (gx_r u v0 0) 0 ∧ S_X0_at u (gx_r u v0 0) v6 (fun (r4 : Int32) (u3 : gx_S) => (S_X6_isWhite u3 r4 (fun (r6 : Int32) (u5 : gx_S) => ((r6 = 0 → ((r4 = (10 : Int32) → (∀ x7 : Int32, x7 = v6 + 1 → J_X1_addRelaxedValue_12 E v0 v1 v2 v3 v4 v5 x7 u5)) ∧ (¬ r4 = (10 : Int32) → ((v5 = 0 → (gx_isO v3 0 ∧ S_X0_addTimes u5 v3 (32 : Int32) (0 : Int32) (fun (u9 : gx_S) => (S_X0_add u9 v3 r4 (fun (u10 : gx_S) => (∀ x11 : Int32, x11 = v6 + 1 → J_X1_addRelaxedValue_12 E v0 v1 v2 v3 v4 (0 : Int32) x11 u10)))))) ∧ (¬ v5 = 0 → (gx_isO v3 0 ∧ S_X0_size u5 v3 (fun (r14 : Int32) (u13 : gx_S) => ((r14 ≤ v4 → (S_X0_addTimes u13 v3 (32 : Int32) (0 : Int32) (fun (u15 : gx_S) => (S_X0_add u15 v3 r4 (fun (u16 : gx_S) => (∀ x17 : Int32, x17 = v6 + 1 → J_X1_addRelaxedValue_12 E v0 v1 v2 v3 v4 (0 : Int32) x17 u16)))))) ∧ (¬ r14 ≤ v4 → (S_X0_addTimes u13 v3 (32 : Int32) (1 : Int32) (fun (u18 : gx_S) => (S_X0_add u18 v3 r4 (fun (u19 : gx_S) => (∀ x20 : Int32, x20 = v6 + 1 → J_X1_addRelaxedValue_12 E v0 v1 v2 v3 v4 (0 : Int32) x20 u19)))))))))))))) ∧ (¬ r6 = 0 → (∀ x24 : Int32, x24 = v6 + 1 → J_X1_addRelaxedValue_12 E v0 v1 v2 v3 v4 (1 : Int32) x24 u5))))))))))) : gx_Wc E 8 12 [(0, .ref (ex_ad E v0)), (1, .int v1), (2, .int v2), (3, .ref (ex_ad E v3)), (4, .int v4), (5, .int v5), (6, .int v6)] [] u := by
  refine gx_iload X (j := 6) dX1_addRelaxedValue_12 rfl ?_
  refine gx_iload_n X (j := 2) dX1_addRelaxedValue_14 rfl rfl ?_
  refine gx_icmp_ge X (tgt := 90) dX1_addRelaxedValue_15 (by decide) (fun c26 => ?_) (fun c26 => ?_)
  · replace h := h.1 c26
    exact gx_vret X hQ h dX1_addRelaxedValue_90
  · replace h := h.2 c26
    refine gx_aload_n X (j := 0) dX1_addRelaxedValue_18 rfl rfl ?_
    obtain ⟨k1, h⟩ := h
    refine gx_get X k1 rfl iwX1 0 (by decide) mw_46 (v := .ref (ex_ad E (gx_r u v0 0))) rfl dX1_addRelaxedValue_19 ?_
    refine gx_iload X (j := 6) dX1_addRelaxedValue_22 rfl ?_
    obtain ⟨k2, h⟩ := h
    refine gx_ki (gx_rV X (c_X0_at h) (Nat.le_trans (by decide) hd) (Nat.le_trans (by decide) (Nat.mul_le_mul_left 40 hd)) k2 rfl mw_162 mw_163 mw_164 mw_2 mw_165 hyX0_at (As := [.int v6]) (rest := []) rfl rfl (Nat.le_of_ble_eq_true rfl) dX1_addRelaxedValue_24) (fun r4 u3 h => ?_)
    refine gx_istore X (lv' := [(7, .int r4), (0, .ref (ex_ad E v0)), (1, .int v1), (2, .int v2), (3, .ref (ex_ad E v3)), (4, .int v4), (5, .int v5), (6, .int v6)]) dX1_addRelaxedValue_27 (by decide) rfl ?_
    refine gx_iload X (j := 0) dX1_addRelaxedValue_29 rfl ?_
    refine gx_ki (gx_rSN X (c_X6_isWhite h) (Nat.le_trans (by decide) hd) (Nat.le_trans (by decide) (Nat.mul_le_mul_left 40 hd)) mn_3 mw_185 mw_1 mw_186 hyX6_isWhite (As := [.int r4]) (rest := []) rfl rfl (Nat.le_of_ble_eq_true rfl) dX1_addRelaxedValue_31) (fun r6 u5 h => ?_)
    refine gx_if_eq X (tgt := 43) dX1_addRelaxedValue_34 (by decide) (fun c25 => ?_) (fun c25 => ?_)
    · replace h := h.1 c25
      refine gx_iload X (j := 0) dX1_addRelaxedValue_43 rfl ?_
      refine gx_bipush X (v := 10) dX1_addRelaxedValue_45 (by decide) ?_
      refine gx_icmp_eq X (tgt := 84) dX1_addRelaxedValue_47 (by decide) (fun c23 => ?_) (fun c23 => ?_)
      · replace h := h.1 c23
        obtain ⟨x7, ex7⟩ : ∃ y : Int32, y = v6 + 1 := ⟨_, rfl⟩
        replace h := h x7 ex7
        refine gx_iinc X (v := x7) (lv' := [(6, .int x7), (7, .int r4), (0, .ref (ex_ad E v0)), (1, .int v1), (2, .int v2), (3, .ref (ex_ad E v3)), (4, .int v4), (5, .int v5)]) dX1_addRelaxedValue_84 (j := 7) rfl (by rw [ex7]; rfl) (by decide) rfl ?_
        refine gx_goto X (tgt := 12) dX1_addRelaxedValue_87 (by decide) ?_
        exact gx_sub [2, 3, 4, 5, 6, 7, 0] rfl h
      · replace h := h.2 c23
        refine gx_aload_n X (j := 4) dX1_addRelaxedValue_50 rfl rfl ?_
        refine gx_bipush X (v := 32) dX1_addRelaxedValue_51 (by decide) ?_
        refine gx_iload X (j := 6) dX1_addRelaxedValue_53 rfl ?_
        refine gx_if_eq X (tgt := 71) dX1_addRelaxedValue_55 (by decide) (fun c22 => ?_) (fun c22 => ?_)
        · replace h := h.1 c22
          refine gx_iconst X (v := 0) dX1_addRelaxedValue_71 (by decide) ?_
          obtain ⟨k8, h⟩ := h
          refine gx_kv (gx_rV X (c_X0_addTimes h) (Nat.le_trans (by decide) hd) (Nat.le_trans (by decide) (Nat.mul_le_mul_left 40 hd)) k8 rfl mw_214 mw_215 mw_216 mw_2 mw_217 hyX0_addTimes (As := [.int (32 : Int32), .int (0 : Int32)]) (rest := []) rfl rfl (Nat.le_of_ble_eq_true rfl) dX1_addRelaxedValue_72) (fun u9 h => ?_)
          refine gx_aload_n X (j := 4) dX1_addRelaxedValue_75 rfl rfl ?_
          refine gx_iload X (j := 0) dX1_addRelaxedValue_76 rfl ?_
          refine gx_kv (gx_rV X (c_X0_add h) (Nat.le_trans (by decide) hd) (Nat.le_trans (by decide) (Nat.mul_le_mul_left 40 hd)) k8 rfl mw_218 mw_136 mw_137 mw_2 mw_138 hyX0_add (As := [.int r4]) (rest := []) rfl rfl (Nat.le_of_ble_eq_true rfl) dX1_addRelaxedValue_78) (fun u10 h => ?_)
          refine gx_iconst X (v := 0) dX1_addRelaxedValue_81 (by decide) ?_
          refine gx_istore X (lv' := [(5, .int (0 : Int32)), (7, .int r4), (0, .ref (ex_ad E v0)), (1, .int v1), (2, .int v2), (3, .ref (ex_ad E v3)), (4, .int v4), (6, .int v6)]) dX1_addRelaxedValue_82 (by decide) rfl ?_
          obtain ⟨x11, ex11⟩ : ∃ y : Int32, y = v6 + 1 := ⟨_, rfl⟩
          replace h := h x11 ex11
          refine gx_iinc X (v := x11) (lv' := [(6, .int x11), (5, .int (0 : Int32)), (7, .int r4), (0, .ref (ex_ad E v0)), (1, .int v1), (2, .int v2), (3, .ref (ex_ad E v3)), (4, .int v4)]) dX1_addRelaxedValue_84 (j := 7) rfl (by rw [ex11]; rfl) (by decide) rfl ?_
          refine gx_goto X (tgt := 12) dX1_addRelaxedValue_87 (by decide) ?_
          exact gx_sub [3, 4, 5, 6, 7, 1, 0] rfl h
        · replace h := h.2 c22
          refine gx_aload_n X (j := 4) dX1_addRelaxedValue_58 rfl rfl ?_
          obtain ⟨k12, h⟩ := h
          refine gx_ki (gx_rV X (c_X0_size h) (Nat.le_trans (by decide) hd) (Nat.le_trans (by decide) (Nat.mul_le_mul_left 40 hd)) k12 rfl mw_161 mw_128 mw_129 mw_2 mw_130 hyX0_size (As := []) (rest := [.int (32 : Int32), .ref (ex_ad E v3)]) rfl rfl (Nat.le_of_ble_eq_true rfl) dX1_addRelaxedValue_59) (fun r14 u13 h => ?_)
          refine gx_iload X (j := 5) dX1_addRelaxedValue_62 rfl ?_
          refine gx_icmp_le X (tgt := 71) dX1_addRelaxedValue_64 (by decide) (fun c21 => ?_) (fun c21 => ?_)
          · replace h := h.1 c21
            refine gx_iconst X (v := 0) dX1_addRelaxedValue_71 (by decide) ?_
            refine gx_kv (gx_rV X (c_X0_addTimes h) (Nat.le_trans (by decide) hd) (Nat.le_trans (by decide) (Nat.mul_le_mul_left 40 hd)) k12 rfl mw_214 mw_215 mw_216 mw_2 mw_217 hyX0_addTimes (As := [.int (32 : Int32), .int (0 : Int32)]) (rest := []) rfl rfl (Nat.le_of_ble_eq_true rfl) dX1_addRelaxedValue_72) (fun u15 h => ?_)
            refine gx_aload_n X (j := 4) dX1_addRelaxedValue_75 rfl rfl ?_
            refine gx_iload X (j := 0) dX1_addRelaxedValue_76 rfl ?_
            refine gx_kv (gx_rV X (c_X0_add h) (Nat.le_trans (by decide) hd) (Nat.le_trans (by decide) (Nat.mul_le_mul_left 40 hd)) k12 rfl mw_218 mw_136 mw_137 mw_2 mw_138 hyX0_add (As := [.int r4]) (rest := []) rfl rfl (Nat.le_of_ble_eq_true rfl) dX1_addRelaxedValue_78) (fun u16 h => ?_)
            refine gx_iconst X (v := 0) dX1_addRelaxedValue_81 (by decide) ?_
            refine gx_istore X (lv' := [(5, .int (0 : Int32)), (7, .int r4), (0, .ref (ex_ad E v0)), (1, .int v1), (2, .int v2), (3, .ref (ex_ad E v3)), (4, .int v4), (6, .int v6)]) dX1_addRelaxedValue_82 (by decide) rfl ?_
            obtain ⟨x17, ex17⟩ : ∃ y : Int32, y = v6 + 1 := ⟨_, rfl⟩
            replace h := h x17 ex17
            refine gx_iinc X (v := x17) (lv' := [(6, .int x17), (5, .int (0 : Int32)), (7, .int r4), (0, .ref (ex_ad E v0)), (1, .int v1), (2, .int v2), (3, .ref (ex_ad E v3)), (4, .int v4)]) dX1_addRelaxedValue_84 (j := 7) rfl (by rw [ex17]; rfl) (by decide) rfl ?_
            refine gx_goto X (tgt := 12) dX1_addRelaxedValue_87 (by decide) ?_
            exact gx_sub [3, 4, 5, 6, 7, 1, 0] rfl h
          · replace h := h.2 c21
            refine gx_iconst X (v := 1) dX1_addRelaxedValue_67 (by decide) ?_
            refine gx_goto X (tgt := 72) dX1_addRelaxedValue_68 (by decide) ?_
            refine gx_kv (gx_rV X (c_X0_addTimes h) (Nat.le_trans (by decide) hd) (Nat.le_trans (by decide) (Nat.mul_le_mul_left 40 hd)) k12 rfl mw_214 mw_215 mw_216 mw_2 mw_217 hyX0_addTimes (As := [.int (32 : Int32), .int (1 : Int32)]) (rest := []) rfl rfl (Nat.le_of_ble_eq_true rfl) dX1_addRelaxedValue_72) (fun u18 h => ?_)
            refine gx_aload_n X (j := 4) dX1_addRelaxedValue_75 rfl rfl ?_
            refine gx_iload X (j := 0) dX1_addRelaxedValue_76 rfl ?_
            refine gx_kv (gx_rV X (c_X0_add h) (Nat.le_trans (by decide) hd) (Nat.le_trans (by decide) (Nat.mul_le_mul_left 40 hd)) k12 rfl mw_218 mw_136 mw_137 mw_2 mw_138 hyX0_add (As := [.int r4]) (rest := []) rfl rfl (Nat.le_of_ble_eq_true rfl) dX1_addRelaxedValue_78) (fun u19 h => ?_)
            refine gx_iconst X (v := 0) dX1_addRelaxedValue_81 (by decide) ?_
            refine gx_istore X (lv' := [(5, .int (0 : Int32)), (7, .int r4), (0, .ref (ex_ad E v0)), (1, .int v1), (2, .int v2), (3, .ref (ex_ad E v3)), (4, .int v4), (6, .int v6)]) dX1_addRelaxedValue_82 (by decide) rfl ?_
            obtain ⟨x20, ex20⟩ : ∃ y : Int32, y = v6 + 1 := ⟨_, rfl⟩
            replace h := h x20 ex20
            refine gx_iinc X (v := x20) (lv' := [(6, .int x20), (5, .int (0 : Int32)), (7, .int r4), (0, .ref (ex_ad E v0)), (1, .int v1), (2, .int v2), (3, .ref (ex_ad E v3)), (4, .int v4)]) dX1_addRelaxedValue_84 (j := 7) rfl (by rw [ex20]; rfl) (by decide) rfl ?_
            refine gx_goto X (tgt := 12) dX1_addRelaxedValue_87 (by decide) ?_
            exact gx_sub [3, 4, 5, 6, 7, 1, 0] rfl h
    · replace h := h.2 c25
      refine gx_iconst X (v := 1) dX1_addRelaxedValue_37 (by decide) ?_
      refine gx_istore X (lv' := [(5, .int (1 : Int32)), (7, .int r4), (0, .ref (ex_ad E v0)), (1, .int v1), (2, .int v2), (3, .ref (ex_ad E v3)), (4, .int v4), (6, .int v6)]) dX1_addRelaxedValue_38 (by decide) rfl ?_
      refine gx_goto X (tgt := 84) dX1_addRelaxedValue_40 (by decide) ?_
      obtain ⟨x24, ex24⟩ : ∃ y : Int32, y = v6 + 1 := ⟨_, rfl⟩
      replace h := h x24 ex24
      refine gx_iinc X (v := x24) (lv' := [(6, .int x24), (5, .int (1 : Int32)), (7, .int r4), (0, .ref (ex_ad E v0)), (1, .int v1), (2, .int v2), (3, .ref (ex_ad E v3)), (4, .int v4)]) dX1_addRelaxedValue_84 (j := 7) rfl (by rw [ex24]; rfl) (by decide) rfl ?_
      refine gx_goto X (tgt := 12) dX1_addRelaxedValue_87 (by decide) ?_
      exact gx_sub [3, 4, 5, 6, 7, 1, 0] rfl h
-- PlainSeal$Mail.writeSimpleField(ILPlainSeal$Bytes;)V
theorem dX1_writeSimpleField_0 : decode cX1_writeSimpleField 0 = .ok (.aload_n 0, 1) := by decide +kernel
theorem dX1_writeSimpleField_1 : decode cX1_writeSimpleField 1 = .ok (.getfield 18, 3) := by decide +kernel
theorem dX1_writeSimpleField_4 : decode cX1_writeSimpleField 4 = .ok (.iload_n 1, 1) := by decide +kernel
theorem dX1_writeSimpleField_5 : decode cX1_writeSimpleField 5 = .ok (.iconst 1, 1) := by decide +kernel
theorem dX1_writeSimpleField_6 : decode cX1_writeSimpleField 6 = .ok (.iadd, 1) := by decide +kernel
theorem dX1_writeSimpleField_7 : decode cX1_writeSimpleField 7 = .ok (.iaload, 1) := by decide +kernel
theorem dX1_writeSimpleField_8 : decode cX1_writeSimpleField 8 = .ok (.istore_n 3, 1) := by decide +kernel
theorem dX1_writeSimpleField_9 : decode cX1_writeSimpleField 9 = .ok (.aload_n 0, 1) := by decide +kernel
theorem dX1_writeSimpleField_10 : decode cX1_writeSimpleField 10 = .ok (.getfield 12, 3) := by decide +kernel
theorem dX1_writeSimpleField_13 : decode cX1_writeSimpleField 13 = .ok (.iload_n 3, 1) := by decide +kernel
theorem dX1_writeSimpleField_14 : decode cX1_writeSimpleField 14 = .ok (.iconst 1, 1) := by decide +kernel
theorem dX1_writeSimpleField_15 : decode cX1_writeSimpleField 15 = .ok (.isub, 1) := by decide +kernel
theorem dX1_writeSimpleField_16 : decode cX1_writeSimpleField 16 = .ok (.invokevirtual 49, 3) := by decide +kernel
theorem dX1_writeSimpleField_19 : decode cX1_writeSimpleField 19 = .ok (.bipush 10, 2) := by decide +kernel
theorem dX1_writeSimpleField_21 : decode cX1_writeSimpleField 21 = .ok (.if_icmp .ne 7, 3) := by decide +kernel
theorem dX1_writeSimpleField_24 : decode cX1_writeSimpleField 24 = .ok (.iconst 1, 1) := by decide +kernel
theorem dX1_writeSimpleField_25 : decode cX1_writeSimpleField 25 = .ok (.goto 4, 3) := by decide +kernel
theorem dX1_writeSimpleField_28 : decode cX1_writeSimpleField 28 = .ok (.iconst 0, 1) := by decide +kernel
theorem dX1_writeSimpleField_29 : decode cX1_writeSimpleField 29 = .ok (.istore 4, 2) := by decide +kernel
theorem dX1_writeSimpleField_31 : decode cX1_writeSimpleField 31 = .ok (.aload_n 2, 1) := by decide +kernel
theorem dX1_writeSimpleField_32 : decode cX1_writeSimpleField 32 = .ok (.invokevirtual 76, 3) := by decide +kernel
theorem dX1_writeSimpleField_35 : decode cX1_writeSimpleField 35 = .ok (.aload_n 2, 1) := by decide +kernel
theorem dX1_writeSimpleField_36 : decode cX1_writeSimpleField 36 = .ok (.aload_n 0, 1) := by decide +kernel
theorem dX1_writeSimpleField_37 : decode cX1_writeSimpleField 37 = .ok (.getfield 12, 3) := by decide +kernel
theorem dX1_writeSimpleField_40 : decode cX1_writeSimpleField 40 = .ok (.aload_n 0, 1) := by decide +kernel
theorem dX1_writeSimpleField_41 : decode cX1_writeSimpleField 41 = .ok (.getfield 18, 3) := by decide +kernel
theorem dX1_writeSimpleField_44 : decode cX1_writeSimpleField 44 = .ok (.iload_n 1, 1) := by decide +kernel
theorem dX1_writeSimpleField_45 : decode cX1_writeSimpleField 45 = .ok (.iaload, 1) := by decide +kernel
theorem dX1_writeSimpleField_46 : decode cX1_writeSimpleField 46 = .ok (.iload 4, 2) := by decide +kernel
theorem dX1_writeSimpleField_48 : decode cX1_writeSimpleField 48 = .ok (.ifCond .eq 9, 3) := by decide +kernel
theorem dX1_writeSimpleField_51 : decode cX1_writeSimpleField 51 = .ok (.iload_n 3, 1) := by decide +kernel
theorem dX1_writeSimpleField_52 : decode cX1_writeSimpleField 52 = .ok (.iconst 1, 1) := by decide +kernel
theorem dX1_writeSimpleField_53 : decode cX1_writeSimpleField 53 = .ok (.isub, 1) := by decide +kernel
theorem dX1_writeSimpleField_54 : decode cX1_writeSimpleField 54 = .ok (.goto 4, 3) := by decide +kernel
theorem dX1_writeSimpleField_57 : decode cX1_writeSimpleField 57 = .ok (.iload_n 3, 1) := by decide +kernel
theorem dX1_writeSimpleField_58 : decode cX1_writeSimpleField 58 = .ok (.invokevirtual 87, 3) := by decide +kernel
theorem dX1_writeSimpleField_61 : decode cX1_writeSimpleField 61 = .ok (.return_, 1) := by decide +kernel
theorem hyX1_writeSimpleField : yX1_writeSimpleField.cls ≠ "java/lang/invoke/MethodHandle" ∧ yX1_writeSimpleField.cls ≠ "java/lang/invoke/VarHandle" ∧ (parseMethodDescriptor yX1_writeSimpleField.desc).map (fun d => d.parameters.length) = some 2 := by decide +kernel
def S_X1_writeSimpleField (u : gx_S) (v0 : Nat) (v1 : Int32) (v2 : Nat) (post : gx_S → Prop) : Prop := (gx_isO v0 1 ∧ (gx_isR (gx_r u v0 1) .int ∧ vp_in (v1 + (1 : Int32)) (gx_len (gx_r u v0 1)) ∧ (∀ x4 : Int32, x4 = (gx_a u (gx_r u v0 1) (v1 + (1 : Int32)).toNatClampNeg) → (gx_isO (gx_r u v0 0) 0 ∧ S_X0_at u (gx_r u v0 0) (x4 - (1 : Int32)) (fun (r7 : Int32) (u6 : gx_S) => ((¬ r7 = (10 : Int32) → (gx_isO v2 0 ∧ S_X0_clear u6 v2 (fun (u9 : gx_S) => (gx_isR (gx_r u9 v0 1) .int ∧ vp_in v1 (gx_len (gx_r u9 v0 1)) ∧ (S_X0_addPart u9 v2 (gx_r u9 v0 0) (gx_a u9 (gx_r u9 v0 1) v1.toNatClampNeg) x4 (fun (u12 : gx_S) => post u12)))))) ∧ (r7 = (10 : Int32) → (gx_isO v2 0 ∧ S_X0_clear u6 v2 (fun (u14 : gx_S) => (gx_isR (gx_r u14 v0 1) .int ∧ vp_in v1 (gx_len (gx_r u14 v0 1)) ∧ (S_X0_addPart u14 v2 (gx_r u14 v0 0) (gx_a u14 (gx_r u14 v0 1) v1.toNatClampNeg) (x4 - (1 : Int32)) (fun (u17 : gx_S) => post u17))))))))))))
set_option maxHeartbeats 4000000 in
set_option maxRecDepth 100000 in
theorem w_X1_writeSimpleField {E : gx_E} (X : gx_X E cX1_writeSimpleField 5 RX1 none) (hd : 2 ≤ ex_d E) {post : gx_S → Prop} (hQ : ex_Q E = va_Qv post (gx_B (ex_Z E)) (gx_A (ex_Z E))) {u : gx_S} {v0 : Nat} {v1 : Int32} {v2 : Nat} (h : S_X1_writeSimpleField u v0 v1 v2 post) : gx_Wc E 5 0 [(0, .ref (ex_ad E v0)), (1, .int v1), (2, .ref (ex_ad E v2))] [] u := by
  unfold S_X1_writeSimpleField at h
  refine gx_aload_n X (j := 0) dX1_writeSimpleField_0 rfl rfl ?_
  obtain ⟨k1, h⟩ := h
  refine gx_get X k1 rfl iwX1 1 (by decide) mw_47 (v := .ref (ex_ad E (gx_r u v0 1))) rfl dX1_writeSimpleField_1 ?_
  refine gx_iload_n X (j := 1) dX1_writeSimpleField_4 rfl rfl ?_
  refine gx_iconst X (v := 1) dX1_writeSimpleField_5 (by decide) ?_
  refine gx_iadd X dX1_writeSimpleField_6 ?_
  obtain ⟨k2, h⟩ := h
  obtain ⟨k3, h⟩ := h
  refine gx_iald X k2 k3 dX1_writeSimpleField_7 ?_
  refine gx_nami (fun x4 ex4 => ?_)
  replace h := h x4 ex4
  refine gx_istore_n X (lv' := [(3, .int x4), (0, .ref (ex_ad E v0)), (1, .int v1), (2, .ref (ex_ad E v2))]) dX1_writeSimpleField_8 rfl (by decide) rfl ?_
  refine gx_aload_n X (j := 1) dX1_writeSimpleField_9 rfl rfl ?_
  refine gx_get X k1 rfl iwX1 0 (by decide) mw_46 (v := .ref (ex_ad E (gx_r u v0 0))) rfl dX1_writeSimpleField_10 ?_
  refine gx_iload_n X (j := 0) dX1_writeSimpleField_13 rfl rfl ?_
  refine gx_iconst X (v := 1) dX1_writeSimpleField_14 (by decide) ?_
  refine gx_isub X dX1_writeSimpleField_15 ?_
  obtain ⟨k5, h⟩ := h
  refine gx_ki (gx_rV X (c_X0_at h) (Nat.le_trans (by decide) hd) (Nat.le_trans (by decide) (Nat.mul_le_mul_left 40 hd)) k5 rfl mw_162 mw_163 mw_164 mw_2 mw_165 hyX0_at (As := [.int (x4 - (1 : Int32))]) (rest := []) rfl rfl (Nat.le_of_ble_eq_true rfl) dX1_writeSimpleField_16) (fun r7 u6 h => ?_)
  refine gx_bipush X (v := 10) dX1_writeSimpleField_19 (by decide) ?_
  refine gx_icmp_ne X (tgt := 28) dX1_writeSimpleField_21 (by decide) (fun c18 => ?_) (fun c18 => ?_)
  · replace h := h.1 c18
    refine gx_iconst X (v := 0) dX1_writeSimpleField_28 (by decide) ?_
    refine gx_istore X (lv' := [(4, .int (0 : Int32)), (3, .int x4), (0, .ref (ex_ad E v0)), (1, .int v1), (2, .ref (ex_ad E v2))]) dX1_writeSimpleField_29 (by decide) rfl ?_
    refine gx_aload_n X (j := 4) dX1_writeSimpleField_31 rfl rfl ?_
    obtain ⟨k8, h⟩ := h
    refine gx_kv (gx_rV X (c_X0_clear h) (Nat.le_trans (by decide) hd) (Nat.le_trans (by decide) (Nat.mul_le_mul_left 40 hd)) k8 rfl mw_213 mw_192 mw_193 mw_2 mw_194 hyX0_clear (As := []) (rest := []) rfl rfl (Nat.le_of_ble_eq_true rfl) dX1_writeSimpleField_32) (fun u9 h => ?_)
    refine gx_aload_n X (j := 4) dX1_writeSimpleField_35 rfl rfl ?_
    refine gx_aload_n X (j := 2) dX1_writeSimpleField_36 rfl rfl ?_
    refine gx_get X k1 rfl iwX1 0 (by decide) mw_46 (v := .ref (ex_ad E (gx_r u9 v0 0))) rfl dX1_writeSimpleField_37 ?_
    refine gx_aload_n X (j := 2) dX1_writeSimpleField_40 rfl rfl ?_
    refine gx_get X k1 rfl iwX1 1 (by decide) mw_47 (v := .ref (ex_ad E (gx_r u9 v0 1))) rfl dX1_writeSimpleField_41 ?_
    refine gx_iload_n X (j := 3) dX1_writeSimpleField_44 rfl rfl ?_
    obtain ⟨k10, h⟩ := h
    obtain ⟨k11, h⟩ := h
    refine gx_iald X k10 k11 dX1_writeSimpleField_45 ?_
    refine gx_iload X (j := 0) dX1_writeSimpleField_46 rfl ?_
    refine gx_if_eq X (tgt := 57) dX1_writeSimpleField_48 (by decide) (fun _ => ?_) (fun hz => absurd hz (by decide))
    refine gx_iload_n X (j := 1) dX1_writeSimpleField_57 rfl rfl ?_
    refine gx_kv (gx_rV X (c_X0_addPart h) (Nat.le_trans (by decide) hd) (Nat.le_trans (by decide) (Nat.mul_le_mul_left 40 hd)) k8 rfl mw_243 mw_196 mw_197 mw_2 mw_198 hyX0_addPart (As := [.ref (ex_ad E (gx_r u9 v0 0)), .int (gx_a u9 (gx_r u9 v0 1) v1.toNatClampNeg), .int x4]) (rest := []) rfl rfl (Nat.le_of_ble_eq_true rfl) dX1_writeSimpleField_58) (fun u12 h => ?_)
    exact gx_vret X hQ h dX1_writeSimpleField_61
  · replace h := h.2 c18
    refine gx_iconst X (v := 1) dX1_writeSimpleField_24 (by decide) ?_
    refine gx_goto X (tgt := 29) dX1_writeSimpleField_25 (by decide) ?_
    refine gx_istore X (lv' := [(4, .int (1 : Int32)), (3, .int x4), (0, .ref (ex_ad E v0)), (1, .int v1), (2, .ref (ex_ad E v2))]) dX1_writeSimpleField_29 (by decide) rfl ?_
    refine gx_aload_n X (j := 4) dX1_writeSimpleField_31 rfl rfl ?_
    obtain ⟨k13, h⟩ := h
    refine gx_kv (gx_rV X (c_X0_clear h) (Nat.le_trans (by decide) hd) (Nat.le_trans (by decide) (Nat.mul_le_mul_left 40 hd)) k13 rfl mw_213 mw_192 mw_193 mw_2 mw_194 hyX0_clear (As := []) (rest := []) rfl rfl (Nat.le_of_ble_eq_true rfl) dX1_writeSimpleField_32) (fun u14 h => ?_)
    refine gx_aload_n X (j := 4) dX1_writeSimpleField_35 rfl rfl ?_
    refine gx_aload_n X (j := 2) dX1_writeSimpleField_36 rfl rfl ?_
    refine gx_get X k1 rfl iwX1 0 (by decide) mw_46 (v := .ref (ex_ad E (gx_r u14 v0 0))) rfl dX1_writeSimpleField_37 ?_
    refine gx_aload_n X (j := 2) dX1_writeSimpleField_40 rfl rfl ?_
    refine gx_get X k1 rfl iwX1 1 (by decide) mw_47 (v := .ref (ex_ad E (gx_r u14 v0 1))) rfl dX1_writeSimpleField_41 ?_
    refine gx_iload_n X (j := 3) dX1_writeSimpleField_44 rfl rfl ?_
    obtain ⟨k15, h⟩ := h
    obtain ⟨k16, h⟩ := h
    refine gx_iald X k15 k16 dX1_writeSimpleField_45 ?_
    refine gx_iload X (j := 0) dX1_writeSimpleField_46 rfl ?_
    refine gx_if_eq X (tgt := 57) dX1_writeSimpleField_48 (by decide) (fun hz => absurd hz (by decide)) (fun _ => ?_)
    refine gx_iload_n X (j := 1) dX1_writeSimpleField_51 rfl rfl ?_
    refine gx_iconst X (v := 1) dX1_writeSimpleField_52 (by decide) ?_
    refine gx_isub X dX1_writeSimpleField_53 ?_
    refine gx_goto X (tgt := 58) dX1_writeSimpleField_54 (by decide) ?_
    refine gx_kv (gx_rV X (c_X0_addPart h) (Nat.le_trans (by decide) hd) (Nat.le_trans (by decide) (Nat.mul_le_mul_left 40 hd)) k13 rfl mw_243 mw_196 mw_197 mw_2 mw_198 hyX0_addPart (As := [.ref (ex_ad E (gx_r u14 v0 0)), .int (gx_a u14 (gx_r u14 v0 1) v1.toNatClampNeg), .int (x4 - (1 : Int32))]) (rest := []) rfl rfl (Nat.le_of_ble_eq_true rfl) dX1_writeSimpleField_58) (fun u17 h => ?_)
    exact gx_vret X hQ h dX1_writeSimpleField_61
theorem c_X1_writeSimpleField {l : Launch} {Z : gx_Z} {u : gx_S} {v0 : Nat} {v1 : Int32} {v2 : Nat} {post : gx_S → Prop} (h : S_X1_writeSimpleField u v0 v1 v2 post) : Met l yX1_writeSimpleField (Cond.code yX1_writeSimpleField cX1_writeSimpleField 5 none :: gx_TB) (gx_rm 2) (gx_Pre Z u [.ref (Z.2.1 v0), .int v1, .ref (Z.2.1 v2)]) (va_Qv post (gx_B Z) (gx_A Z)) 0 0 (gx_A Z) := by
  refine gx_met (by decide +kernel) (Nat.le_of_ble_eq_true rfl) ?_
  intro E X hZ hQ hD hL
  subst hZ
  exact w_X1_writeSimpleField X (Nat.le_of_eq hD.symm) hQ h
theorem emit {u : gx_S} {o c nl : Nat} {w : Bool} {O : List Nat} {post : gx_S → Prop} (hO : byL u o O) (hc : c < 256) (hl : O.length + nl + (if w then 1 else 0) + 1 ≤ 2000) (h : byU u o (O ++ List.replicate nl 10 ++ (if w then [32] else []) ++ [c]) post) :
    S_X0_addTimes u o (10 : Int32) (nI nl) (fun u17 => ((b2 w = 0 → S_X0_addTimes u17 o (32 : Int32) (0 : Int32) (fun u18 => S_X0_add u18 o (cI c) (fun u19 => post u19))) ∧ (¬ b2 w = 0 → S_X0_addTimes u17 o (32 : Int32) (1 : Int32) (fun u21 => S_X0_add u21 o (cI c) (fun u22 => post u22))))) := by
  have hx : (cI c).toInt8.toInt32 = sb_b c := by rw [cI_lo hc, byte_nI (by omega), Nat.mod_eq_of_lt hc]
  refine ⟨O, 10, nl, hO, by omega, by decide, rfl, by omega, fun f hf => ⟨fun q => ?_, fun q => ?_⟩⟩
  · rw [b2_0] at q
    subst q
    have h1 := byL_W hO hf (by simp; omega)
    refine ⟨_, 32, 0, h1, by omega, by decide, nI_0.symm, by simp; omega, fun g hg => ?_⟩
    have h2 := byL_W h1 hg (by simp; omega)
    refine i_X0_add h2 (by simp; omega) hc hx (byU_W (byU_W ?_))
    simpa using h
  · have q2 := b2_n0 q
    subst q2
    simp only [if_true] at hl
    have h1 := byL_W hO hf (by simp; omega)
    refine ⟨_, 32, 1, h1, by omega, by decide, rfl, by simp; omega, fun g hg => ?_⟩
    have h2 := byL_W h1 hg (by simp; omega)
    refine i_X0_add h2 (by simp; omega) hc hx (byU_W (byU_W ?_))
    simpa using h
/-- the body's lines without what is at the end: newlines and white that wait -/
def bdF (M : List Nat) (rel : Bool) : Nat → Nat → Nat → Bool → List Nat → List Nat
  | 0, _, _, _, O => O
  | k + 1, i, nl, w, O => if ch M i = 10 then bdF M rel k (i + 1) (nl + 1) false O else if (rel && isW (ch M i)) = true then bdF M rel k (i + 1) nl true O else bdF M rel k (i + 1) 0 false (O ++ List.replicate nl 10 ++ (if w then [32] else []) ++ [ch M i])
def bodyE (rel : Bool) (O : List Nat) : List Nat := if (rel && decide (O.length = 0)) = true then O else O ++ [10]
def bodyO (M : List Nat) (rel : Bool) (i : Nat) : List Nat := bodyE rel (bdF M rel (M.length - i) i 0 false [])
def S_X1_writeBody (u : gx_S) (v0 : Nat) (v1 : Int32) (v2 : Nat) (post : gx_S → Prop) : Prop := v0 = 3 ∧ v2 = 2 ∧ cfix u ∧ ∃ (M O : List Nat) (k : Nat) (rel : Bool), mlL u M k ∧ byL u 2 O ∧ v1 = b2 rel ∧ byU u 2 (bodyO M rel (plc M k + 1)) post
theorem cr2 {u : gx_S} (hf : cfix u) : gx_r u 4 0 ≠ gx_r u 2 0 := by rw [hf 4 0 (by decide), hf 2 0 (by decide)]; decide
theorem lp_X1_writeBody {E : gx_E} (X : gx_X E cX1_writeBody 7 RX1 none) (hd : 2 ≤ ex_d E) {post : gx_S → Prop} (hQ : ex_Q E = va_Qv post (gx_B (ex_Z E)) (gx_A (ex_Z E))) {M : List Nat} {rel : Bool} :
    ∀ (n i nl : Nat) (w : Bool) (O : List Nat) (u : gx_S), M.length - i = n → 1 ≤ i → i < 2 ^ 30 → O.length + nl + (if w then 1 else 0) + 1 ≤ i → O.length + nl + (if w then 1 else 0) + n + 1 ≤ 2000 → cfix u → byL u 4 M → byL u 2 O → byU u 2 (bodyE rel (bdF M rel n i nl w O)) post → J_X1_writeBody_22 E 3 (b2 rel) 2 (nI nl) (b2 w) (nI i) u := by
  intro n
  induction n with
  | zero =>
    intro i nl w O u hn h1 hi hl hl2 hf hM hO hp
    have hM2 := hM.2.2.2.2.1
    refine w_X1_writeBody_22 X hd hQ ?_
    rw [show gx_r u 3 0 = 4 from hf 3 0 (by decide)]
    unfold bdF bodyE at hp
    refine ⟨isO_x 3 1 (by decide), hM.1, i_X0_size hM ⟨fun _ => ⟨fun q => ⟨hO.1, ?_⟩, fun q => ⟨hO.1, i_X0_size hO ⟨fun q2 => ?_, fun q2 => ?_⟩⟩⟩, fun q => absurd (nI_le (by omega) (by omega)) q⟩⟩
    · rw [b2_0] at q
      subst q
      rw [if_neg (by simp)] at hp
      exact i_X0_add hO (by omega) (by omega) (by decide) hp
    · rw [show (0 : Int32) = nI 0 from nI_0.symm, nI_leI (by omega) (by omega)] at q2
      rw [b2_n0 q, if_pos (by rw [Bool.true_and, decide_eq_true_eq]; omega)] at hp
      exact byU_self hO hp
    · rw [show (0 : Int32) = nI 0 from nI_0.symm, nI_leI (by omega) (by omega)] at q2
      rw [b2_n0 q, if_neg (by rw [Bool.true_and, decide_eq_true_eq]; omega)] at hp
      exact i_X0_add hO (by omega) (by omega) (by decide) hp
  | succ n ih =>
    intro i nl w O u hn h1 hi hl hl2 hf hM hO hp
    have hM2 := hM.2.2.2.2.1
    have hci : ch M i < 256 := ch_lt hM.2.2.2.2.2.1 (by omega)
    have key : (¬ ch M i = 10) → (rel && isW (ch M i)) = false → byU u 2 (O ++ List.replicate nl 10 ++ (if w then [32] else []) ++ [ch M i]) (fun u19 => ∀ x20 : Int32, x20 = nI i + 1 → J_X1_writeBody_22 E 3 (b2 rel) 2 (0 : Int32) (0 : Int32) x20 u19) := by
      intro q1 q2 f hf2 x20 e
      subst e
      rw [nI_1]
      rw [bdF, if_neg q1, if_neg (by rw [q2]; decide)] at hp
      have hlen : (O ++ List.replicate nl 10 ++ (if w then [32] else []) ++ [ch M i]).length = O.length + nl + (if w then 1 else 0) + 1 := by
        cases w <;> simp <;> omega
      exact ih (i + 1) 0 false _ _ (by omega) (by omega) (by omega) (by rw [hlen]; simp; omega) (by rw [hlen]; simp; omega) (fun o k h => hf o k h) (byL_ne hM (by decide) (cr2 hf)) (byL_W hO hf2 (by rw [hlen]; omega)) (byU_W hp)
    refine w_X1_writeBody_22 X hd hQ ?_
    rw [show gx_r u 3 0 = 4 from hf 3 0 (by decide)]
    refine ⟨isO_x 3 1 (by decide), hM.1, i_X0_size hM ⟨fun q => absurd q (nI_ge (by omega) (by omega)), fun _ => ?_⟩⟩
    rw [show gx_r u 3 0 = 4 from hf 3 0 (by decide)]
    refine ⟨hM.1, i_X0_at hM (by omega) ⟨fun q => ⟨fun q1 => ⟨hO.1, ?_⟩, fun q1 => i_X6_isWhite ⟨fun q2 => ⟨hO.1, ?_⟩, fun q2 => ?_⟩⟩, fun q => ?_⟩⟩
    · rw [b2_0] at q1
      exact emit hO hci (by omega) (key (fun e => q ((cI_eq (k := 10) (by omega)).mpr e)) (by rw [q1]; rfl))
    · rw [b2_0] at q2
      exact emit hO hci (by omega) (key (fun e => q ((cI_eq (k := 10) (by omega)).mpr e)) (by rw [q2, Bool.and_false]))
    · rintro x36 rfl
      rw [nI_1]
      rw [bdF, if_neg (fun e => q ((cI_eq (k := 10) (by omega)).mpr e)), if_pos (by rw [b2_n0 q1, b2_n0 q2]; rfl)] at hp
      exact ih (i + 1) nl true O u (by omega) (by omega) (by omega) (by simp; split at hl <;> omega) (by simp; split at hl2 <;> omega) hf hM hO hp
    · rintro x39 rfl x40 rfl
      rw [nI_1, nI_1]
      rw [bdF, if_pos ((cI_eq (k := 10) (by omega)).mp q)] at hp
      exact ih (i + 1) (nl + 1) false O u (by omega) (by omega) (by omega) (by simp; split at hl <;> omega) (by simp; split at hl2 <;> omega) hf hM hO hp
theorem w_X1_writeBody {E : gx_E} (X : gx_X E cX1_writeBody 7 RX1 none) (hd : 2 ≤ ex_d E) {post : gx_S → Prop} (hQ : ex_Q E = va_Qv post (gx_B (ex_Z E)) (gx_A (ex_Z E))) {u : gx_S} {v0 : Nat} {v1 : Int32} {v2 : Nat} (h : S_X1_writeBody u v0 v1 v2 post) : gx_Wc E 7 0 [(0, .ref (ex_ad E v0)), (1, .int v1), (2, .ref (ex_ad E v2))] [] u := by
  obtain ⟨rfl, rfl, hf, M, O, k, rel, ⟨m1, m2, m3, m4⟩, hO, rfl, hp⟩ := h
  have hM2 := m1.2.2.2.2.1
  have hpl := plc_le M k
  refine w_X1_writeBody_0 X hd hQ ⟨hO.1, i_X0_clear hO (fun f hf2 => ⟨isO_x 3 1 (by decide), ?_⟩)⟩
  rw [byW_r, hf 3 1 (by decide), byW_i, if_neg (by decide), m2, byW_a, if_neg (by rw [hf 2 0 (by decide)]; decide)]
  refine ⟨isA13.r, vp_in_nI (N := 21) (by omega) (by omega), ?_⟩
  intro x6 e6
  rw [show rC 3 1 = 13 from rfl, nI_clamp (by omega), m4 k (Nat.le_refl _), nI_1] at e6
  subst e6
  exact lp_X1_writeBody X hd hQ (M.length - (plc M k + 1)) (plc M k + 1) 0 false [] _ rfl (by omega) (by omega) (by simp) (by simp; omega) (fun o k h => hf o k h) (byL_ne m1 (by decide) (cr2 hf)) (byL_W hO hf2 (by simp)) (byU_W hp)
theorem c_X1_writeBody {l : Launch} {Z : gx_Z} {u : gx_S} {v0 : Nat} {v1 : Int32} {v2 : Nat} {post : gx_S → Prop} (h : S_X1_writeBody u v0 v1 v2 post) : Met l yX1_writeBody (Cond.code yX1_writeBody cX1_writeBody 7 none :: gx_TB) (gx_rm 2) (gx_Pre Z u [.ref (Z.2.1 v0), .int v1, .ref (Z.2.1 v2)]) (va_Qv post (gx_B Z) (gx_A Z)) 0 0 (gx_A Z) := by
  refine gx_met (by decide +kernel) (Nat.le_of_ble_eq_true rfl) ?_
  intro E X hZ hQ hD hL
  subst hZ
  exact w_X1_writeBody X (Nat.le_of_eq hD.symm) hQ h
-- addRelaxedValue
def rvF (M : List Nat) : Nat → Nat → Bool → List Nat → List Nat
  | 0, _, _, V => V
  | k + 1, i, w, V => if isW (ch M i) = true then rvF M k (i + 1) true V else if ch M i = 10 then rvF M k (i + 1) w V else rvF M k (i + 1) false (V ++ (if (w && decide (0 < V.length)) = true then [32] else []) ++ [ch M i])
def S_X1_addRelaxedValue (u : gx_S) (v0 : Nat) (v1 v2 : Int32) (v3 : Nat) (post : gx_S → Prop) : Prop := v0 = 3 ∧ v3 = 2 ∧ cfix u ∧ ∃ (M O : List Nat) (i j : Nat), byL u 4 M ∧ byL u 2 O ∧ v1 = nI i ∧ v2 = nI j ∧ i < 2 ^ 29 ∧ j ≤ M.length ∧ O.length + (j - i) ≤ 2000 ∧ byU u 2 (O ++ rvF M (j - i) i false []) post
theorem emit1 {u : gx_S} {o c : Nat} {O : List Nat} {post : gx_S → Prop} (hO : byL u o O) (hc : c < 256) (hl : O.length + 1 ≤ 2000) (h : byU u o (O ++ [c]) post) : S_X0_addTimes u o (32 : Int32) (0 : Int32) (fun u9 => S_X0_add u9 o (cI c) (fun u10 => post u10)) := by
  refine ⟨O, 32, 0, hO, by omega, by decide, nI_0.symm, by omega, fun g hg => ?_⟩
  have h2 := byL_W hO hg (by simp; omega)
  refine i_X0_add h2 (by simp; omega) hc (by rw [cI_lo hc, byte_nI (by omega), Nat.mod_eq_of_lt hc]) (byU_W ?_)
  simpa using h
theorem emit2 {u : gx_S} {o c : Nat} {O : List Nat} {post : gx_S → Prop} (hO : byL u o O) (hc : c < 256) (hl : O.length + 2 ≤ 2000) (h : byU u o (O ++ [32] ++ [c]) post) : S_X0_addTimes u o (32 : Int32) (1 : Int32) (fun u9 => S_X0_add u9 o (cI c) (fun u10 => post u10)) := by
  refine ⟨O, 32, 1, hO, by omega, by decide, rfl, by omega, fun g hg => ?_⟩
  have h2 := byL_W hO hg (by simp; omega)
  refine i_X0_add h2 (by simp; omega) hc (by rw [cI_lo hc, byte_nI (by omega), Nat.mod_eq_of_lt hc]) (byU_W ?_)
  simpa using h
theorem lp_X1_addRelaxedValue {E : gx_E} (X : gx_X E cX1_addRelaxedValue 8 RX1 none) (hd : 2 ≤ ex_d E) {post : gx_S → Prop} (hQ : ex_Q E = va_Qv post (gx_B (ex_Z E)) (gx_A (ex_Z E))) {M O : List Nat} {j : Nat} {v1 : Int32} (hj : j ≤ M.length) :
    ∀ (n i : Nat) (w : Bool) (V : List Nat) (u : gx_S), j - i = n → i < 2 ^ 29 → O.length + V.length + (if w then 1 else 0) + n ≤ 2000 → cfix u → byL u 4 M → byL u 2 (O ++ V) → byU u 2 (O ++ rvF M n i w V) post → J_X1_addRelaxedValue_12 E 3 v1 (nI j) 2 (nI O.length) (b2 w) (nI i) u := by
  intro n
  induction n with
  | zero =>
    intro i w V u hn hi hl hf hM hO hp
    have hM2 := hM.2.2.2.2.1
    refine w_X1_addRelaxedValue_12 X hd hQ ⟨fun _ => byU_self hO hp, fun q => absurd (nI_le (by omega) (by omega)) q⟩
  | succ n ih =>
    intro i w V u hn hi hl hf hM hO hp
    have hM2 := hM.2.2.2.2.1
    have hci : ch M i < 256 := ch_lt hM.2.2.2.2.2.1 (by omega)
    have key : isW (ch M i) = false → (¬ ch M i = 10) → byU u 2 (O ++ (V ++ (if (w && decide (0 < V.length)) = true then [32] else []) ++ [ch M i])) (fun u10 => ∀ x11 : Int32, x11 = nI i + 1 → J_X1_addRelaxedValue_12 E 3 v1 (nI j) 2 (nI O.length) (0 : Int32) x11 u10) := by
      intro q1 q2 f hf2 x11 e
      subst e
      rw [nI_1]
      rw [rvF, if_neg (by rw [q1]; decide), if_neg q2] at hp
      have hlen : (V ++ (if (w && decide (0 < V.length)) = true then [32] else []) ++ [ch M i]).length ≤ V.length + (if w then 1 else 0) + 1 := by
        cases w <;> simp
        split <;> simp
      refine ih (i + 1) false _ _ (by omega) (by omega) (by simp only [Bool.false_eq_true, if_false]; omega) (fun o k h => hf o k h) (byL_ne hM (by decide) (cr2 hf)) (byL_W hO hf2 (by rw [List.length_append]; omega)) (byU_W hp)
    refine w_X1_addRelaxedValue_12 X hd hQ ⟨fun q => absurd q (nI_ge (by omega) (by omega)), fun _ => ?_⟩
    rw [show gx_r u 3 0 = 4 from hf 3 0 (by decide)]
    have hOl : (O ++ V).length = O.length + V.length := List.length_append
    refine ⟨isO_x 3 1 (by decide), hM.1, i_X0_at hM (by omega) (i_X6_isWhite ⟨fun q => ⟨fun q1 => ?_, fun q1 => ⟨fun q2 => ⟨hO.1, ?_⟩, fun q2 => ⟨hO.1, i_X0_size hO ⟨fun q3 => ?_, fun q3 => ?_⟩⟩⟩⟩, fun q => ?_⟩)⟩
    · rintro x7 rfl
      rw [nI_1]
      rw [b2_0] at q
      rw [rvF, if_neg (by rw [q]; decide), if_pos ((cI_eq (k := 10) (by omega)).mp q1)] at hp
      exact ih (i + 1) w V u (by omega) (by omega) (by split at hl <;> simp_all <;> omega) hf hM hO hp
    · rw [b2_0] at q q2
      have k1 := key q (fun e => q1 ((cI_eq (k := 10) (by omega)).mpr e))
      rw [q2] at k1
      refine emit1 hO hci (by omega) ?_
      simpa using k1
    · rw [hOl, nI_leI (by omega) (by omega)] at q3
      rw [b2_0] at q
      have k1 := key q (fun e => q1 ((cI_eq (k := 10) (by omega)).mpr e))
      rw [show decide (0 < V.length) = false from decide_eq_false (by omega)] at k1
      refine emit1 hO hci (by omega) ?_
      simpa using k1
    · rw [hOl, nI_leI (by omega) (by omega)] at q3
      rw [b2_0] at q
      have k1 := key q (fun e => q1 ((cI_eq (k := 10) (by omega)).mpr e))
      rw [show decide (0 < V.length) = true from decide_eq_true (by omega), b2_n0 q2] at k1
      have hw := b2_n0 q2
      subst hw
      simp only [if_true] at hl
      refine emit2 hO hci (by omega) ?_
      simpa using k1
    · rintro x24 rfl
      rw [nI_1]
      rw [rvF, if_pos (b2_n0 q)] at hp
      exact ih (i + 1) true V u (by omega) (by omega) (by simp; split at hl <;> omega) hf hM hO hp
theorem w_X1_addRelaxedValue {E : gx_E} (X : gx_X E cX1_addRelaxedValue 8 RX1 none) (hd : 2 ≤ ex_d E) {post : gx_S → Prop} (hQ : ex_Q E = va_Qv post (gx_B (ex_Z E)) (gx_A (ex_Z E))) {u : gx_S} {v0 : Nat} {v1 v2 : Int32} {v3 : Nat} (h : S_X1_addRelaxedValue u v0 v1 v2 v3 post) : gx_Wc E 8 0 [(0, .ref (ex_ad E v0)), (1, .int v1), (2, .int v2), (3, .ref (ex_ad E v3))] [] u := by
  obtain ⟨rfl, rfl, hf, M, O, i, j, hM, hO, rfl, rfl, hi, hj, hl, hp⟩ := h
  exact w_X1_addRelaxedValue_0 X hd hQ ⟨hO.1, i_X0_size hO (lp_X1_addRelaxedValue X hd hQ hj (j - i) i false [] u rfl hi (by simp; omega) hf hM (by rw [List.append_nil]; exact hO) hp)⟩
theorem c_X1_addRelaxedValue {l : Launch} {Z : gx_Z} {u : gx_S} {v0 : Nat} {v1 : Int32} {v2 : Int32} {v3 : Nat} {post : gx_S → Prop} (h : S_X1_addRelaxedValue u v0 v1 v2 v3 post) : Met l yX1_addRelaxedValue (Cond.code yX1_addRelaxedValue cX1_addRelaxedValue 8 none :: gx_TB) (gx_rm 2) (gx_Pre Z u [.ref (Z.2.1 v0), .int v1, .int v2, .ref (Z.2.1 v3)]) (va_Qv post (gx_B Z) (gx_A Z)) 0 0 (gx_A Z) := by
  refine gx_met (by decide +kernel) (Nat.le_of_ble_eq_true rfl) ?_
  intro E X hZ hQ hD hL
  subst hZ
  exact w_X1_addRelaxedValue X (Nat.le_of_eq hD.symm) hQ h
-- writeSimpleField
def sfO (M : List Nat) (p s : Nat) : List Nat := (M.drop p).take ((if ch M (s - 1) = 10 then s - 1 else s) - p)
theorem i_X1_writeSimpleField {u : gx_S} {M O : List Nat} {k n : Nat} {post : gx_S → Prop} (hf : cfix u) (hM : mlL u M n) (hk : k < n) (hO : byL u 2 O) (h0 : 0 < plc M (k + 1)) (h : byU u 2 (sfO M (plc M k) (plc M (k + 1))) post) : S_X1_writeSimpleField u 3 (nI k) 2 post := by
  obtain ⟨m1, m2, m3, m4⟩ := hM
  have hM2 := m1.2.2.2.2.1
  have hp1 := plc_le M k
  have hp2 := plc_le M (k + 1)
  unfold S_X1_writeSimpleField
  rw [show gx_r u 3 1 = 13 from hf 3 1 (by decide), show gx_r u 3 0 = 4 from hf 3 0 (by decide), nI_1]
  refine ⟨isO_x 3 1 (by decide), isA13.r, vp_in_nI (N := 21) (by omega) (by omega), ?_⟩
  intro x4 e4
  rw [nI_clamp (by omega), m4 (k + 1) (by omega)] at e4
  subst e4
  rw [show (1 : Int32) = nI 1 from rfl, pk_sub h0]
  have key : ∀ t, t ≤ M.length → sfO M (plc M k) (plc M (k + 1)) = (M.drop (plc M k)).take (t - plc M k) → S_X0_clear u 2 (fun (u9 : gx_S) => (gx_isR (gx_r u9 3 1) .int ∧ vp_in (nI k) (gx_len (gx_r u9 3 1)) ∧ (S_X0_addPart u9 2 (gx_r u9 3 0) (gx_a u9 (gx_r u9 3 1) (nI k).toNatClampNeg) (nI t) (fun (u12 : gx_S) => post u12)))) := by
    intro t ht e
    refine i_X0_clear hO (fun f hf2 => ?_)
    rw [byW_r, byW_r, show gx_r u 3 1 = 13 from hf 3 1 (by decide), show gx_r u 3 0 = 4 from hf 3 0 (by decide)]
    refine ⟨isA13.r, vp_in_nI (N := 21) (by omega) (by omega), [], M, plc M k, t, byL_W hO hf2 (by simp), byL_ne m1 (by decide) (cr2 hf), by decide, cr2 hf, ?_, rfl, by omega, ht, by simp; omega, byU_W ?_⟩
    · rw [nI_clamp (by omega), byW_a, if_neg (by rw [hf 2 0 (by decide)]; decide)]
      exact m4 k (by omega)
    · rw [List.nil_append, ← e]; exact h
  refine ⟨m1.1, i_X0_at m1 (by omega) ⟨fun q => ⟨hO.1, key _ hp2 ?_⟩, fun q => ⟨hO.1, key _ (by omega) ?_⟩⟩⟩
  · unfold sfO
    rw [if_neg (fun e => q ((cI_eq (k := 10) (by omega)).mpr e))]
  · unfold sfO
    rw [if_pos ((cI_eq (k := 10) (by omega)).mp q)]
-- PlainSeal$Mail.writeRelaxedField(ILPlainSeal$Bytes;)V
theorem dX1_writeRelaxedField_0 : decode cX1_writeRelaxedField 0 = .ok (.aload_n 0, 1) := by decide +kernel
theorem dX1_writeRelaxedField_1 : decode cX1_writeRelaxedField 1 = .ok (.getfield 18, 3) := by decide +kernel
theorem dX1_writeRelaxedField_4 : decode cX1_writeRelaxedField 4 = .ok (.iload_n 1, 1) := by decide +kernel
theorem dX1_writeRelaxedField_5 : decode cX1_writeRelaxedField 5 = .ok (.iaload, 1) := by decide +kernel
theorem dX1_writeRelaxedField_6 : decode cX1_writeRelaxedField 6 = .ok (.aload_n 0, 1) := by decide +kernel
theorem dX1_writeRelaxedField_7 : decode cX1_writeRelaxedField 7 = .ok (.getfield 12, 3) := by decide +kernel
theorem dX1_writeRelaxedField_10 : decode cX1_writeRelaxedField 10 = .ok (.aload_n 0, 1) := by decide +kernel
theorem dX1_writeRelaxedField_11 : decode cX1_writeRelaxedField 11 = .ok (.getfield 18, 3) := by decide +kernel
theorem dX1_writeRelaxedField_14 : decode cX1_writeRelaxedField 14 = .ok (.iload_n 1, 1) := by decide +kernel
theorem dX1_writeRelaxedField_15 : decode cX1_writeRelaxedField 15 = .ok (.iaload, 1) := by decide +kernel
theorem dX1_writeRelaxedField_16 : decode cX1_writeRelaxedField 16 = .ok (.invokestatic 42, 3) := by decide +kernel
theorem dX1_writeRelaxedField_19 : decode cX1_writeRelaxedField 19 = .ok (.iadd, 1) := by decide +kernel
theorem dX1_writeRelaxedField_20 : decode cX1_writeRelaxedField 20 = .ok (.istore_n 3, 1) := by decide +kernel
theorem dX1_writeRelaxedField_21 : decode cX1_writeRelaxedField 21 = .ok (.aload_n 2, 1) := by decide +kernel
theorem dX1_writeRelaxedField_22 : decode cX1_writeRelaxedField 22 = .ok (.invokevirtual 76, 3) := by decide +kernel
theorem dX1_writeRelaxedField_25 : decode cX1_writeRelaxedField 25 = .ok (.aload_n 0, 1) := by decide +kernel
theorem dX1_writeRelaxedField_26 : decode cX1_writeRelaxedField 26 = .ok (.getfield 18, 3) := by decide +kernel
theorem dX1_writeRelaxedField_29 : decode cX1_writeRelaxedField 29 = .ok (.iload_n 1, 1) := by decide +kernel
theorem dX1_writeRelaxedField_30 : decode cX1_writeRelaxedField 30 = .ok (.iaload, 1) := by decide +kernel
theorem dX1_writeRelaxedField_31 : decode cX1_writeRelaxedField 31 = .ok (.istore 4, 2) := by decide +kernel
theorem dX1_writeRelaxedField_33 : decode cX1_writeRelaxedField 33 = .ok (.iload 4, 2) := by decide +kernel
theorem dX1_writeRelaxedField_35 : decode cX1_writeRelaxedField 35 = .ok (.iload_n 3, 1) := by decide +kernel
theorem dX1_writeRelaxedField_36 : decode cX1_writeRelaxedField 36 = .ok (.if_icmp .ge 25, 3) := by decide +kernel
theorem dX1_writeRelaxedField_39 : decode cX1_writeRelaxedField 39 = .ok (.aload_n 2, 1) := by decide +kernel
theorem dX1_writeRelaxedField_40 : decode cX1_writeRelaxedField 40 = .ok (.aload_n 0, 1) := by decide +kernel
theorem dX1_writeRelaxedField_41 : decode cX1_writeRelaxedField 41 = .ok (.getfield 12, 3) := by decide +kernel
theorem dX1_writeRelaxedField_44 : decode cX1_writeRelaxedField 44 = .ok (.iload 4, 2) := by decide +kernel
theorem dX1_writeRelaxedField_46 : decode cX1_writeRelaxedField 46 = .ok (.invokevirtual 49, 3) := by decide +kernel
theorem dX1_writeRelaxedField_49 : decode cX1_writeRelaxedField 49 = .ok (.invokestatic 73, 3) := by decide +kernel
theorem dX1_writeRelaxedField_52 : decode cX1_writeRelaxedField 52 = .ok (.invokevirtual 83, 3) := by decide +kernel
theorem dX1_writeRelaxedField_55 : decode cX1_writeRelaxedField 55 = .ok (.iinc 4 1, 3) := by decide +kernel
theorem dX1_writeRelaxedField_58 : decode cX1_writeRelaxedField 58 = .ok (.goto (-25), 3) := by decide +kernel
theorem dX1_writeRelaxedField_61 : decode cX1_writeRelaxedField 61 = .ok (.aload_n 2, 1) := by decide +kernel
theorem dX1_writeRelaxedField_62 : decode cX1_writeRelaxedField 62 = .ok (.bipush 58, 2) := by decide +kernel
theorem dX1_writeRelaxedField_64 : decode cX1_writeRelaxedField 64 = .ok (.invokevirtual 83, 3) := by decide +kernel
theorem dX1_writeRelaxedField_67 : decode cX1_writeRelaxedField 67 = .ok (.aload_n 0, 1) := by decide +kernel
theorem dX1_writeRelaxedField_68 : decode cX1_writeRelaxedField 68 = .ok (.iload_n 3, 1) := by decide +kernel
theorem dX1_writeRelaxedField_69 : decode cX1_writeRelaxedField 69 = .ok (.iconst 1, 1) := by decide +kernel
theorem dX1_writeRelaxedField_70 : decode cX1_writeRelaxedField 70 = .ok (.iadd, 1) := by decide +kernel
theorem dX1_writeRelaxedField_71 : decode cX1_writeRelaxedField 71 = .ok (.aload_n 0, 1) := by decide +kernel
theorem dX1_writeRelaxedField_72 : decode cX1_writeRelaxedField 72 = .ok (.getfield 18, 3) := by decide +kernel
theorem dX1_writeRelaxedField_75 : decode cX1_writeRelaxedField 75 = .ok (.iload_n 1, 1) := by decide +kernel
theorem dX1_writeRelaxedField_76 : decode cX1_writeRelaxedField 76 = .ok (.iconst 1, 1) := by decide +kernel
theorem dX1_writeRelaxedField_77 : decode cX1_writeRelaxedField 77 = .ok (.iadd, 1) := by decide +kernel
theorem dX1_writeRelaxedField_78 : decode cX1_writeRelaxedField 78 = .ok (.iaload, 1) := by decide +kernel
theorem dX1_writeRelaxedField_79 : decode cX1_writeRelaxedField 79 = .ok (.aload_n 2, 1) := by decide +kernel
theorem dX1_writeRelaxedField_80 : decode cX1_writeRelaxedField 80 = .ok (.invokevirtual 91, 3) := by decide +kernel
theorem dX1_writeRelaxedField_83 : decode cX1_writeRelaxedField 83 = .ok (.return_, 1) := by decide +kernel
theorem hyX1_writeRelaxedField : yX1_writeRelaxedField.cls ≠ "java/lang/invoke/MethodHandle" ∧ yX1_writeRelaxedField.cls ≠ "java/lang/invoke/VarHandle" ∧ (parseMethodDescriptor yX1_writeRelaxedField.desc).map (fun d => d.parameters.length) = some 2 := by decide +kernel
abbrev J_X1_writeRelaxedField_33 (E : gx_E) (v0 : Nat) (v1 : Int32) (v2 : Nat) (v3 : Int32) (v4 : Int32) (u : gx_S) : Prop := gx_Wc E 5 33 [(0, .ref (ex_ad E v0)), (1, .int v1), (2, .ref (ex_ad E v2)), (3, .int v3), (4, .int v4)] [] u
set_option maxHeartbeats 4000000 in
set_option maxRecDepth 100000 in
theorem w_X1_writeRelaxedField_0 {E : gx_E} (X : gx_X E cX1_writeRelaxedField 5 RX1 none) (hd : 3 ≤ ex_d E) {post : gx_S → Prop} (hQ : ex_Q E = va_Qv post (gx_B (ex_Z E)) (gx_A (ex_Z E))) {u : gx_S} {v0 : Nat} {v1 : Int32} {v2 : Nat} (h : (gx_isO v0 1 ∧ (gx_isR (gx_r u v0 1) .int ∧ vp_in v1 (gx_len (gx_r u v0 1)) ∧ (vp_in v1 (gx_len (gx_r u v0 1)) ∧ (S_X1_nameLength u (gx_r u v0 0) (gx_a u (gx_r u v0 1) v1.toNatClampNeg) (fun (r6 : Int32) (u5 : gx_S) => (∀ x7 : Int32, x7 = ((gx_a u (gx_r u v0 1) v1.toNatClampNeg) + r6) → (gx_isO v2 0 ∧ S_X0_clear u5 v2 (fun (u9 : gx_S) => (gx_isR (gx_r u9 v0 1) .int ∧ vp_in v1 (gx_len (gx_r u9 v0 1)) ∧ (∀ x12 : Int32, x12 = (gx_a u9 (gx_r u9 v0 1) v1.toNatClampNeg) → J_X1_writeRelaxedField_33 E v0 v1 v2 x7 x12 u9))))))))))) : gx_Wc E 5 0 [(0, .ref (ex_ad E v0)), (1, .int v1), (2, .ref (ex_ad E v2))] [] u := by
  refine gx_aload_n X (j := 0) dX1_writeRelaxedField_0 rfl rfl ?_
  obtain ⟨k1, h⟩ := h
  refine gx_get X k1 rfl iwX1 1 (by decide) mw_47 (v := .ref (ex_ad E (gx_r u v0 1))) rfl dX1_writeRelaxedField_1 ?_
  refine gx_iload_n X (j := 1) dX1_writeRelaxedField_4 rfl rfl ?_
  obtain ⟨k2, h⟩ := h
  obtain ⟨k3, h⟩ := h
  refine gx_iald X k2 k3 dX1_writeRelaxedField_5 ?_
  refine gx_aload_n X (j := 0) dX1_writeRelaxedField_6 rfl rfl ?_
  refine gx_get X k1 rfl iwX1 0 (by decide) mw_46 (v := .ref (ex_ad E (gx_r u v0 0))) rfl dX1_writeRelaxedField_7 ?_
  refine gx_aload_n X (j := 0) dX1_writeRelaxedField_10 rfl rfl ?_
  refine gx_get X k1 rfl iwX1 1 (by decide) mw_47 (v := .ref (ex_ad E (gx_r u v0 1))) rfl dX1_writeRelaxedField_11 ?_
  refine gx_iload_n X (j := 1) dX1_writeRelaxedField_14 rfl rfl ?_
  obtain ⟨k4, h⟩ := h
  refine gx_iald X k2 k4 dX1_writeRelaxedField_15 ?_
  refine gx_ki (gx_rS X (c_X1_nameLength h) (Nat.le_trans (by decide) hd) (Nat.le_trans (by decide) (Nat.mul_le_mul_left 40 hd)) mw_166 mw_167 mw_3 mw_168 hyX1_nameLength (As := [.ref (ex_ad E (gx_r u v0 0)), .int (gx_a u (gx_r u v0 1) v1.toNatClampNeg)]) (rest := [.int (gx_a u (gx_r u v0 1) v1.toNatClampNeg)]) rfl rfl (Nat.le_of_ble_eq_true rfl) dX1_writeRelaxedField_16) (fun r6 u5 h => ?_)
  refine gx_iadd X dX1_writeRelaxedField_19 ?_
  refine gx_nami (fun x7 ex7 => ?_)
  replace h := h x7 ex7
  refine gx_istore_n X (lv' := [(3, .int x7), (0, .ref (ex_ad E v0)), (1, .int v1), (2, .ref (ex_ad E v2))]) dX1_writeRelaxedField_20 rfl (by decide) rfl ?_
  refine gx_aload_n X (j := 3) dX1_writeRelaxedField_21 rfl rfl ?_
  obtain ⟨k8, h⟩ := h
  refine gx_kv (gx_rV X (c_X0_clear h) (Nat.le_trans (by decide) hd) (Nat.le_trans (by decide) (Nat.mul_le_mul_left 40 hd)) k8 rfl mw_213 mw_192 mw_193 mw_2 mw_194 hyX0_clear (As := []) (rest := []) rfl rfl (Nat.le_of_ble_eq_true rfl) dX1_writeRelaxedField_22) (fun u9 h => ?_)
  refine gx_aload_n X (j := 1) dX1_writeRelaxedField_25 rfl rfl ?_
  refine gx_get X k1 rfl iwX1 1 (by decide) mw_47 (v := .ref (ex_ad E (gx_r u9 v0 1))) rfl dX1_writeRelaxedField_26 ?_
  refine gx_iload_n X (j := 2) dX1_writeRelaxedField_29 rfl rfl ?_
  obtain ⟨k10, h⟩ := h
  obtain ⟨k11, h⟩ := h
  refine gx_iald X k10 k11 dX1_writeRelaxedField_30 ?_
  refine gx_nami (fun x12 ex12 => ?_)
  replace h := h x12 ex12
  refine gx_istore X (lv' := [(4, .int x12), (3, .int x7), (0, .ref (ex_ad E v0)), (1, .int v1), (2, .ref (ex_ad E v2))]) dX1_writeRelaxedField_31 (by decide) rfl ?_
  exact gx_sub [2, 3, 4, 1, 0] rfl h
set_option maxHeartbeats 4000000 in
set_option maxRecDepth 100000 in
theorem w_X1_writeRelaxedField_33 {E : gx_E} (X : gx_X E cX1_writeRelaxedField 5 RX1 none) (hd : 3 ≤ ex_d E) {post : gx_S → Prop} (hQ : ex_Q E = va_Qv post (gx_B (ex_Z E)) (gx_A (ex_Z E))) {u : gx_S} {v0 : Nat} {v1 : Int32} {v2 : Nat} {v3 : Int32} {v4 : Int32} (h : ((v3 ≤ v4 → (gx_isO v2 0 ∧ S_X0_add u v2 (58 : Int32) (fun (u2 : gx_S) => (gx_isO v0 1 ∧ (gx_isR (gx_r u2 v0 1) .int ∧ vp_in (v1 + (1 : Int32)) (gx_len (gx_r u2 v0 1)) ∧ (S_X1_addRelaxedValue u2 v0 (v3 + (1 : Int32)) (gx_a u2 (gx_r u2 v0 1) (v1 + (1 : Int32)).toNatClampNeg) v2 (fun (u6 : gx_S) => post u6))))))) ∧ (¬ v3 ≤ v4 → (gx_isO v0 1 ∧ (gx_isO (gx_r u v0 0) 0 ∧ S_X0_at u (gx_r u v0 0) v4 (fun (r10 : Int32) (u9 : gx_S) => (S_X6_small u9 r10 (fun (r12 : Int32) (u11 : gx_S) => (gx_isO v2 0 ∧ S_X0_add u11 v2 r12 (fun (u14 : gx_S) => (∀ x15 : Int32, x15 = v4 + 1 → J_X1_writeRelaxedField_33 E v0 v1 v2 v3 x15 u14))))))))))) : gx_Wc E 5 33 [(0, .ref (ex_ad E v0)), (1, .int v1), (2, .ref (ex_ad E v2)), (3, .int v3), (4, .int v4)] [] u := by
  refine gx_iload X (j := 4) dX1_writeRelaxedField_33 rfl ?_
  refine gx_iload_n X (j := 3) dX1_writeRelaxedField_35 rfl rfl ?_
  refine gx_icmp_ge X (tgt := 61) dX1_writeRelaxedField_36 (by decide) (fun c16 => ?_) (fun c16 => ?_)
  · replace h := h.1 c16
    refine gx_aload_n X (j := 2) dX1_writeRelaxedField_61 rfl rfl ?_
    refine gx_bipush X (v := 58) dX1_writeRelaxedField_62 (by decide) ?_
    obtain ⟨k1, h⟩ := h
    refine gx_kv (gx_rV X (c_X0_add h) (Nat.le_trans (by decide) hd) (Nat.le_trans (by decide) (Nat.mul_le_mul_left 40 hd)) k1 rfl mw_218 mw_136 mw_137 mw_2 mw_138 hyX0_add (As := [.int (58 : Int32)]) (rest := []) rfl rfl (Nat.le_of_ble_eq_true rfl) dX1_writeRelaxedField_64) (fun u2 h => ?_)
    refine gx_aload_n X (j := 0) dX1_writeRelaxedField_67 rfl rfl ?_
    refine gx_iload_n X (j := 3) dX1_writeRelaxedField_68 rfl rfl ?_
    refine gx_iconst X (v := 1) dX1_writeRelaxedField_69 (by decide) ?_
    refine gx_iadd X dX1_writeRelaxedField_70 ?_
    refine gx_aload_n X (j := 0) dX1_writeRelaxedField_71 rfl rfl ?_
    obtain ⟨k3, h⟩ := h
    refine gx_get X k3 rfl iwX1 1 (by decide) mw_47 (v := .ref (ex_ad E (gx_r u2 v0 1))) rfl dX1_writeRelaxedField_72 ?_
    refine gx_iload_n X (j := 1) dX1_writeRelaxedField_75 rfl rfl ?_
    refine gx_iconst X (v := 1) dX1_writeRelaxedField_76 (by decide) ?_
    refine gx_iadd X dX1_writeRelaxedField_77 ?_
    obtain ⟨k4, h⟩ := h
    obtain ⟨k5, h⟩ := h
    refine gx_iald X k4 k5 dX1_writeRelaxedField_78 ?_
    refine gx_aload_n X (j := 2) dX1_writeRelaxedField_79 rfl rfl ?_
    refine gx_kv (gx_rV X (c_X1_addRelaxedValue h) (Nat.le_trans (by decide) hd) (Nat.le_trans (by decide) (Nat.mul_le_mul_left 40 hd)) k3 rfl mw_235 mw_237 mp_0 mw_3 mw_238 hyX1_addRelaxedValue (As := [.int (v3 + (1 : Int32)), .int (gx_a u2 (gx_r u2 v0 1) (v1 + (1 : Int32)).toNatClampNeg), .ref (ex_ad E v2)]) (rest := []) rfl rfl (Nat.le_of_ble_eq_true rfl) dX1_writeRelaxedField_80) (fun u6 h => ?_)
    exact gx_vret X hQ h dX1_writeRelaxedField_83
  · replace h := h.2 c16
    refine gx_aload_n X (j := 2) dX1_writeRelaxedField_39 rfl rfl ?_
    refine gx_aload_n X (j := 0) dX1_writeRelaxedField_40 rfl rfl ?_
    obtain ⟨k7, h⟩ := h
    refine gx_get X k7 rfl iwX1 0 (by decide) mw_46 (v := .ref (ex_ad E (gx_r u v0 0))) rfl dX1_writeRelaxedField_41 ?_
    refine gx_iload X (j := 4) dX1_writeRelaxedField_44 rfl ?_
    obtain ⟨k8, h⟩ := h
    refine gx_ki (gx_rV X (c_X0_at h) (Nat.le_trans (by decide) hd) (Nat.le_trans (by decide) (Nat.mul_le_mul_left 40 hd)) k8 rfl mw_162 mw_163 mw_164 mw_2 mw_165 hyX0_at (As := [.int v4]) (rest := [.ref (ex_ad E v2)]) rfl rfl (Nat.le_of_ble_eq_true rfl) dX1_writeRelaxedField_46) (fun r10 u9 h => ?_)
    refine gx_ki (gx_rSN X (c_X6_small h) (Nat.le_trans (by decide) hd) (Nat.le_trans (by decide) (Nat.mul_le_mul_left 40 hd)) mn_4 mw_232 mw_1 mw_233 hyX6_small (As := [.int r10]) (rest := [.ref (ex_ad E v2)]) rfl rfl (Nat.le_of_ble_eq_true rfl) dX1_writeRelaxedField_49) (fun r12 u11 h => ?_)
    obtain ⟨k13, h⟩ := h
    refine gx_kv (gx_rV X (c_X0_add h) (Nat.le_trans (by decide) hd) (Nat.le_trans (by decide) (Nat.mul_le_mul_left 40 hd)) k13 rfl mw_218 mw_136 mw_137 mw_2 mw_138 hyX0_add (As := [.int r12]) (rest := []) rfl rfl (Nat.le_of_ble_eq_true rfl) dX1_writeRelaxedField_52) (fun u14 h => ?_)
    obtain ⟨x15, ex15⟩ : ∃ y : Int32, y = v4 + 1 := ⟨_, rfl⟩
    replace h := h x15 ex15
    refine gx_iinc X (v := x15) (lv' := [(4, .int x15), (0, .ref (ex_ad E v0)), (1, .int v1), (2, .ref (ex_ad E v2)), (3, .int v3)]) dX1_writeRelaxedField_55 (j := 4) rfl (by rw [ex15]; rfl) (by decide) rfl ?_
    refine gx_goto X (tgt := 33) dX1_writeRelaxedField_58 (by decide) ?_
    exact gx_sub [1, 2, 3, 4, 0] rfl h
theorem nameLen_lt {M : List Nat} {p : Nat} (h : nameLen M p ≠ 0) : p + nameLen M p < M.length := by
  unfold nameLen at h ⊢
  by_cases hc : ch M (p + runF isN M 20 p) = 58
  · rw [if_pos hc]
    refine Nat.not_le.mp (fun q => ?_)
    rw [ch_ge q] at hc
    exact absurd hc (by decide)
  · rw [if_neg hc] at h; exact absurd rfl h
def nmO (M : List Nat) (p : Nat) : Nat → List Nat
  | 0 => []
  | n + 1 => nmO M p n ++ [sml (ch M (p + n))]
theorem nmO_len (M : List Nat) (p : Nat) : ∀ n, (nmO M p n).length = n
  | 0 => rfl
  | n + 1 => by rw [nmO, len_push, nmO_len M p n]
def rfO (M : List Nat) (p s : Nat) : List Nat := nmO M p (nameLen M p) ++ [58] ++ rvF M (s - (p + nameLen M p + 1)) (p + nameLen M p + 1) false []
def S_X1_writeRelaxedField (u : gx_S) (v0 : Nat) (v1 : Int32) (v2 : Nat) (post : gx_S → Prop) : Prop := v0 = 3 ∧ v2 = 2 ∧ cfix u ∧ ∃ (M O : List Nat) (k n : Nat), mlL u M n ∧ k < n ∧ v1 = nI k ∧ byL u 2 O ∧ byU u 2 (rfO M (plc M k) (plc M (k + 1))) post
theorem lp_X1_writeRelaxedField {E : gx_E} (X : gx_X E cX1_writeRelaxedField 5 RX1 none) (hd : 3 ≤ ex_d E) {post : gx_S → Prop} (hQ : ex_Q E = va_Qv post (gx_B (ex_Z E)) (gx_A (ex_Z E))) {M : List Nat} {k n : Nat} (hk : k < n) :
    ∀ (t i : Nat) (u : gx_S), nameLen M (plc M k) - i = t → i ≤ nameLen M (plc M k) → cfix u → mlL u M n → byL u 2 (nmO M (plc M k) i) → byU u 2 (rfO M (plc M k) (plc M (k + 1))) post → J_X1_writeRelaxedField_33 E 3 (nI k) 2 (nI (plc M k + nameLen M (plc M k))) (nI (plc M k + i)) u := by
  have h20 := nameLen_le M (plc M k)
  have hp1 := plc_le M k
  have hp2 := plc_le M (k + 1)
  intro t
  induction t with
  | zero =>
    intro i u ht hi hf hM hO hp
    obtain ⟨m1, m2, m3, m4⟩ := hM
    have hM2 := m1.2.2.2.2.1
    have e : i = nameLen M (plc M k) := by omega
    subst e
    refine w_X1_writeRelaxedField_33 X hd hQ ⟨fun _ => ⟨hO.1, i_X0_add hO (by rw [nmO_len]; omega) (c := 58) (by omega) (by decide) (fun f hf2 => ⟨isO_x 3 1 (by decide), ?_⟩)⟩, fun q => absurd (nI_le (by omega) (by omega)) q⟩
    rw [byW_r, show gx_r u 3 1 = 13 from hf 3 1 (by decide), nI_1, nI_1]
    refine ⟨isA13.r, vp_in_nI (N := 21) (by omega) (by omega), rfl, rfl, (fun o k h => hf o k h), M, _, plc M k + nameLen M (plc M k) + 1, plc M (k + 1), byL_ne m1 (by decide) (cr2 hf), byL_push hO hf2 (by rw [nmO_len]; omega), rfl, ?_, by omega, hp2, by rw [len_push, nmO_len]; omega, byU_W hp⟩
    rw [nI_clamp (by omega), byW_a, if_neg (by rw [hf 2 0 (by decide)]; decide)]
    exact m4 (k + 1) (by omega)
  | succ t ih =>
    intro i u ht hi hf hM hO hp
    have hM' := hM
    obtain ⟨m1, m2, m3, m4⟩ := hM
    have hM2 := m1.2.2.2.2.1
    have hlt := nameLen_lt (M := M) (p := plc M k) (by omega)
    have hci : ch M (plc M k + i) < 256 := ch_lt m1.2.2.2.2.2.1 (by omega)
    have hsm : sml (ch M (plc M k + i)) < 256 := by
      rcases sml_alt (Or.inl hci) with h | h
      · exact h
      · unfold sml at h; split at h
        · rename_i q; simp [isG] at q; omega
        · omega
    refine w_X1_writeRelaxedField_33 X hd hQ ⟨fun q => absurd q (nI_ge (by omega) (by omega)), fun _ => ?_⟩
    rw [show gx_r u 3 0 = 4 from hf 3 0 (by decide)]
    refine ⟨isO_x 3 1 (by decide), m1.1, i_X0_at m1 (by omega) (i_X6_small ⟨hO.1, i_X0_add hO (by rw [nmO_len]; omega) hsm (by rw [cI_lo hsm, byte_nI (by omega), Nat.mod_eq_of_lt hsm]) (fun f hf2 => ?_)⟩ (Or.inl hci))⟩
    rintro x15 rfl
    rw [nI_1]
    refine ih (i + 1) _ (by omega) (by omega) (fun o k h => hf o k h) ⟨byL_ne m1 (by decide) (cr2 hf), ?_, m3, fun j hj => ?_⟩ (byL_push hO hf2 (by rw [nmO_len]; omega)) (byU_W hp)
    · rw [byW_i, if_neg (by decide)]; exact m2
    · rw [byW_a, if_neg (by rw [hf 2 0 (by decide)]; decide)]; exact m4 j hj
theorem w_X1_writeRelaxedField {E : gx_E} (X : gx_X E cX1_writeRelaxedField 5 RX1 none) (hd : 3 ≤ ex_d E) {post : gx_S → Prop} (hQ : ex_Q E = va_Qv post (gx_B (ex_Z E)) (gx_A (ex_Z E))) {u : gx_S} {v0 : Nat} {v1 : Int32} {v2 : Nat} (h : S_X1_writeRelaxedField u v0 v1 v2 post) : gx_Wc E 5 0 [(0, .ref (ex_ad E v0)), (1, .int v1), (2, .ref (ex_ad E v2))] [] u := by
  obtain ⟨rfl, rfl, hf, M, O, k, n, hM, hk, rfl, hO, hp⟩ := h
  have hM' := hM
  obtain ⟨m1, m2, m3, m4⟩ := hM
  have hM2 := m1.2.2.2.2.1
  have hp1 := plc_le M k
  have h20 := nameLen_le M (plc M k)
  refine w_X1_writeRelaxedField_0 X hd hQ ?_
  rw [show gx_r u 3 1 = 13 from hf 3 1 (by decide), show gx_r u 3 0 = 4 from hf 3 0 (by decide), nI_clamp (by omega), m4 k (by omega)]
  refine ⟨isO_x 3 1 (by decide), isA13.r, vp_in_nI (N := 21) (by omega) (by omega), vp_in_nI (N := 21) (by omega) (by omega), M, plc M k, m1, by omega, rfl, ?_⟩
  intro x7 e7
  rw [nI_add] at e7
  subst e7
  refine ⟨hO.1, i_X0_clear hO (fun f hf2 => ?_)⟩
  rw [byW_r, show gx_r u 3 1 = 13 from hf 3 1 (by decide), byW_a, if_neg (by rw [hf 2 0 (by decide)]; decide), m4 k (by omega)]
  refine ⟨isA13.r, vp_in_nI (N := 21) (by omega) (by omega), ?_⟩
  intro x12 e12
  subst e12
  refine lp_X1_writeRelaxedField X hd hQ hk (nameLen M (plc M k)) 0 _ (by omega) (by omega) (fun o k h => hf o k h) ⟨byL_ne m1 (by decide) (cr2 hf), ?_, m3, fun j hj => ?_⟩ (byL_W hO hf2 (by simp)) (byU_W hp)
  · rw [byW_i, if_neg (by decide)]; exact m2
  · rw [byW_a, if_neg (by rw [hf 2 0 (by decide)]; decide)]; exact m4 j hj
theorem c_X1_writeRelaxedField {l : Launch} {Z : gx_Z} {u : gx_S} {v0 : Nat} {v1 : Int32} {v2 : Nat} {post : gx_S → Prop} (h : S_X1_writeRelaxedField u v0 v1 v2 post) : Met l yX1_writeRelaxedField (Cond.code yX1_writeRelaxedField cX1_writeRelaxedField 5 none :: gx_TB) (gx_rm 3) (gx_Pre Z u [.ref (Z.2.1 v0), .int v1, .ref (Z.2.1 v2)]) (va_Qv post (gx_B Z) (gx_A Z)) 0 0 (gx_A Z) := by
  refine gx_met (by decide +kernel) (Nat.le_of_ble_eq_true rfl) ?_
  intro E X hZ hQ hD hL
  subst hZ
  exact w_X1_writeRelaxedField X (Nat.le_of_eq hD.symm) hQ h

-- PlainSeal$Mail.read(LPlainSeal$Bytes;)I
theorem dX1_read_0 : decode cX1_read 0 = .ok (.aload_n 1, 1) := by decide +kernel
theorem dX1_read_1 : decode cX1_read 1 = .ok (.invokestatic 26, 3) := by decide +kernel
theorem dX1_read_4 : decode cX1_read 4 = .ok (.istore_n 2, 1) := by decide +kernel
theorem dX1_read_5 : decode cX1_read 5 = .ok (.iload_n 2, 1) := by decide +kernel
theorem dX1_read_6 : decode cX1_read 6 = .ok (.ifCond .ne 5, 3) := by decide +kernel
theorem dX1_read_9 : decode cX1_read 9 = .ok (.iconst (-1), 1) := by decide +kernel
theorem dX1_read_10 : decode cX1_read 10 = .ok (.ireturn, 1) := by decide +kernel
theorem dX1_read_11 : decode cX1_read 11 = .ok (.aload_n 0, 1) := by decide +kernel
theorem dX1_read_12 : decode cX1_read 12 = .ok (.getfield 12, 3) := by decide +kernel
theorem dX1_read_15 : decode cX1_read 15 = .ok (.aload_n 1, 1) := by decide +kernel
theorem dX1_read_16 : decode cX1_read 16 = .ok (.invokevirtual 30, 3) := by decide +kernel
theorem dX1_read_19 : decode cX1_read 19 = .ok (.aload_n 0, 1) := by decide +kernel
theorem dX1_read_20 : decode cX1_read 20 = .ok (.iload_n 2, 1) := by decide +kernel
theorem dX1_read_21 : decode cX1_read 21 = .ok (.putfield 22, 3) := by decide +kernel
theorem dX1_read_24 : decode cX1_read 24 = .ok (.iconst 0, 1) := by decide +kernel
theorem dX1_read_25 : decode cX1_read 25 = .ok (.istore_n 3, 1) := by decide +kernel
theorem dX1_read_26 : decode cX1_read 26 = .ok (.iload_n 3, 1) := by decide +kernel
theorem dX1_read_27 : decode cX1_read 27 = .ok (.iload_n 2, 1) := by decide +kernel
theorem dX1_read_28 : decode cX1_read 28 = .ok (.if_icmp .ge 30, 3) := by decide +kernel
theorem dX1_read_31 : decode cX1_read 31 = .ok (.aload_n 0, 1) := by decide +kernel
theorem dX1_read_32 : decode cX1_read 32 = .ok (.getfield 18, 3) := by decide +kernel
theorem dX1_read_35 : decode cX1_read 35 = .ok (.iload_n 3, 1) := by decide +kernel
theorem dX1_read_36 : decode cX1_read 36 = .ok (.iconst 1, 1) := by decide +kernel
theorem dX1_read_37 : decode cX1_read 37 = .ok (.iadd, 1) := by decide +kernel
theorem dX1_read_38 : decode cX1_read 38 = .ok (.aload_n 0, 1) := by decide +kernel
theorem dX1_read_39 : decode cX1_read 39 = .ok (.getfield 12, 3) := by decide +kernel
theorem dX1_read_42 : decode cX1_read 42 = .ok (.aload_n 0, 1) := by decide +kernel
theorem dX1_read_43 : decode cX1_read 43 = .ok (.getfield 18, 3) := by decide +kernel
theorem dX1_read_46 : decode cX1_read 46 = .ok (.iload_n 3, 1) := by decide +kernel
theorem dX1_read_47 : decode cX1_read 47 = .ok (.iaload, 1) := by decide +kernel
theorem dX1_read_48 : decode cX1_read 48 = .ok (.invokestatic 34, 3) := by decide +kernel
theorem dX1_read_51 : decode cX1_read 51 = .ok (.iastore, 1) := by decide +kernel
theorem dX1_read_52 : decode cX1_read 52 = .ok (.iinc 3 1, 3) := by decide +kernel
theorem dX1_read_55 : decode cX1_read 55 = .ok (.goto (-29), 3) := by decide +kernel
theorem dX1_read_58 : decode cX1_read 58 = .ok (.iload_n 2, 1) := by decide +kernel
theorem dX1_read_59 : decode cX1_read 59 = .ok (.ireturn, 1) := by decide +kernel
theorem hyX1_read : yX1_read.cls ≠ "java/lang/invoke/MethodHandle" ∧ yX1_read.cls ≠ "java/lang/invoke/VarHandle" ∧ (parseMethodDescriptor yX1_read.desc).map (fun d => d.parameters.length) = some 1 := by decide +kernel
abbrev J_X1_read_26 (E : gx_E) (v0 : Nat) (v1 : Nat) (v2 : Int32) (v3 : Int32) (u : gx_S) : Prop := gx_Wc E 4 26 [(0, .ref (ex_ad E v0)), (1, .ref (ex_ad E v1)), (2, .int v2), (3, .int v3)] [] u
set_option maxHeartbeats 4000000 in
set_option maxRecDepth 100000 in
theorem w_X1_read_0 {E : gx_E} (X : gx_X E cX1_read 4 RX1 (some .int)) (hd : 4 ≤ ex_d E) {post : Int32 → gx_S → Prop} (hQ : ex_Q E = va_Qi post (gx_B (ex_Z E)) (gx_A (ex_Z E))) {u : gx_S} {v0 : Nat} {v1 : Nat} (h : (S_X1_countFields u v1 (fun (r2 : Int32) (u1 : gx_S) => ((¬ r2 = 0 → (gx_isO v0 1 ∧ (gx_isO (gx_r u1 v0 0) 0 ∧ S_X0_become u1 (gx_r u1 v0 0) v1 (fun (u5 : gx_S) => (∀ u6 : gx_S, u6 = gx_pi u5 v0 2 r2 → J_X1_read_26 E v0 v1 r2 (0 : Int32) u6))))) ∧ (r2 = 0 → post (-1 : Int32) u1))))) : gx_Wc E 4 0 [(0, .ref (ex_ad E v0)), (1, .ref (ex_ad E v1))] [] u := by
  refine gx_aload_n X (j := 1) dX1_read_0 rfl rfl ?_
  refine gx_ki (gx_rS X (c_X1_countFields h) (Nat.le_trans (by decide) hd) (Nat.le_trans (by decide) (Nat.mul_le_mul_left 40 hd)) mw_155 mw_156 mw_3 mw_157 hyX1_countFields (As := [.ref (ex_ad E v1)]) (rest := []) rfl rfl (Nat.le_of_ble_eq_true rfl) dX1_read_1) (fun r2 u1 h => ?_)
  refine gx_istore_n X (lv' := [(2, .int r2), (0, .ref (ex_ad E v0)), (1, .ref (ex_ad E v1))]) dX1_read_4 rfl (by decide) rfl ?_
  refine gx_iload_n X (j := 0) dX1_read_5 rfl rfl ?_
  refine gx_if_ne X (tgt := 11) dX1_read_6 (by decide) (fun c7 => ?_) (fun c7 => ?_)
  · replace h := h.1 c7
    refine gx_aload_n X (j := 1) dX1_read_11 rfl rfl ?_
    obtain ⟨k3, h⟩ := h
    refine gx_get X k3 rfl iwX1 0 (by decide) mw_46 (v := .ref (ex_ad E (gx_r u1 v0 0))) rfl dX1_read_12 ?_
    refine gx_aload_n X (j := 2) dX1_read_15 rfl rfl ?_
    obtain ⟨k4, h⟩ := h
    refine gx_kv (gx_rV X (c_X0_become h) (Nat.le_trans (by decide) hd) (Nat.le_trans (by decide) (Nat.mul_le_mul_left 40 hd)) k4 rfl mw_187 mw_188 mw_189 mw_2 mw_190 hyX0_become (As := [.ref (ex_ad E v1)]) (rest := []) rfl rfl (Nat.le_of_ble_eq_true rfl) dX1_read_16) (fun u5 h => ?_)
    refine gx_aload_n X (j := 1) dX1_read_19 rfl rfl ?_
    refine gx_iload_n X (j := 0) dX1_read_20 rfl rfl ?_
    refine gx_put X k3 rfl iwX1 tyX1_ok nmX1 2 (by decide) mw_48 rfl rfl rfl (fun _ => rfl) dX1_read_21 ?_
    refine gx_nams (fun u6 eu6 => ?_)
    replace h := h u6 eu6
    refine gx_iconst X (v := 0) dX1_read_24 (by decide) ?_
    refine gx_istore_n X (lv' := [(3, .int (0 : Int32)), (2, .int r2), (0, .ref (ex_ad E v0)), (1, .ref (ex_ad E v1))]) dX1_read_25 rfl (by decide) rfl ?_
    exact gx_sub [2, 3, 1, 0] rfl h
  · replace h := h.2 c7
    refine gx_iconst X (v := -1) dX1_read_9 (by decide) ?_
    exact gx_iret X hQ h dX1_read_10
set_option maxHeartbeats 4000000 in
set_option maxRecDepth 100000 in
theorem w_X1_read_26 {E : gx_E} (X : gx_X E cX1_read 4 RX1 (some .int)) (hd : 4 ≤ ex_d E) {post : Int32 → gx_S → Prop} (hQ : ex_Q E = va_Qi post (gx_B (ex_Z E)) (gx_A (ex_Z E))) {u : gx_S} {v0 : Nat} {v1 : Nat} {v2 : Int32} {v3 : Int32} (h : ((v2 ≤ v3 → post v2 u) ∧ (¬ v2 ≤ v3 → (gx_isO v0 1 ∧ (gx_isR (gx_r u v0 1) .int ∧ vp_in v3 (gx_len (gx_r u v0 1)) ∧ (S_X1_fieldStop u (gx_r u v0 0) (gx_a u (gx_r u v0 1) v3.toNatClampNeg) (fun (r5 : Int32) (u4 : gx_S) => (gx_isA (gx_r u v0 1) .int ∧ vp_in (v3 + (1 : Int32)) (gx_len (gx_r u v0 1)) ∧ ∀ u8 : gx_S, u8 = gx_pa u4 (gx_r u v0 1) (upd (gx_a u4 (gx_r u v0 1)) (v3 + (1 : Int32)).toNatClampNeg r5) → (∀ x9 : Int32, x9 = v3 + 1 → J_X1_read_26 E v0 v1 v2 x9 u8))))))))) : gx_Wc E 4 26 [(0, .ref (ex_ad E v0)), (1, .ref (ex_ad E v1)), (2, .int v2), (3, .int v3)] [] u := by
  refine gx_iload_n X (j := 3) dX1_read_26 rfl rfl ?_
  refine gx_iload_n X (j := 2) dX1_read_27 rfl rfl ?_
  refine gx_icmp_ge X (tgt := 58) dX1_read_28 (by decide) (fun c10 => ?_) (fun c10 => ?_)
  · replace h := h.1 c10
    refine gx_iload_n X (j := 2) dX1_read_58 rfl rfl ?_
    exact gx_iret X hQ h dX1_read_59
  · replace h := h.2 c10
    refine gx_aload_n X (j := 0) dX1_read_31 rfl rfl ?_
    obtain ⟨k1, h⟩ := h
    refine gx_get X k1 rfl iwX1 1 (by decide) mw_47 (v := .ref (ex_ad E (gx_r u v0 1))) rfl dX1_read_32 ?_
    refine gx_iload_n X (j := 3) dX1_read_35 rfl rfl ?_
    refine gx_iconst X (v := 1) dX1_read_36 (by decide) ?_
    refine gx_iadd X dX1_read_37 ?_
    refine gx_aload_n X (j := 0) dX1_read_38 rfl rfl ?_
    refine gx_get X k1 rfl iwX1 0 (by decide) mw_46 (v := .ref (ex_ad E (gx_r u v0 0))) rfl dX1_read_39 ?_
    refine gx_aload_n X (j := 0) dX1_read_42 rfl rfl ?_
    refine gx_get X k1 rfl iwX1 1 (by decide) mw_47 (v := .ref (ex_ad E (gx_r u v0 1))) rfl dX1_read_43 ?_
    refine gx_iload_n X (j := 3) dX1_read_46 rfl rfl ?_
    obtain ⟨k2, h⟩ := h
    obtain ⟨k3, h⟩ := h
    refine gx_iald X k2 k3 dX1_read_47 ?_
    refine gx_ki (gx_rS X (c_X1_fieldStop h) (Nat.le_trans (by decide) hd) (Nat.le_trans (by decide) (Nat.mul_le_mul_left 40 hd)) mw_181 mw_182 mw_3 mw_183 hyX1_fieldStop (As := [.ref (ex_ad E (gx_r u v0 0)), .int (gx_a u (gx_r u v0 1) v3.toNatClampNeg)]) (rest := [.int (v3 + (1 : Int32)), .ref (ex_ad E (gx_r u v0 1))]) rfl rfl (Nat.le_of_ble_eq_true rfl) dX1_read_48) (fun r5 u4 h => ?_)
    obtain ⟨k6, h⟩ := h
    obtain ⟨k7, h⟩ := h
    refine gx_iast X k6 k7 dX1_read_51 ?_
    refine gx_nams (fun u8 eu8 => ?_)
    replace h := h u8 eu8
    obtain ⟨x9, ex9⟩ : ∃ y : Int32, y = v3 + 1 := ⟨_, rfl⟩
    replace h := h x9 ex9
    refine gx_iinc X (v := x9) (lv' := [(3, .int x9), (0, .ref (ex_ad E v0)), (1, .ref (ex_ad E v1)), (2, .int v2)]) dX1_read_52 (j := 3) rfl (by rw [ex9]; rfl) (by decide) rfl ?_
    refine gx_goto X (tgt := 26) dX1_read_55 (by decide) ?_
    exact gx_sub [1, 2, 3, 0] rfl h
-- PlainSeal$Mail.isNamed(ILPlainSeal$Bytes;)Z
theorem dX1_isNamed_0 : decode cX1_isNamed 0 = .ok (.aload_n 0, 1) := by decide +kernel
theorem dX1_isNamed_1 : decode cX1_isNamed 1 = .ok (.getfield 12, 3) := by decide +kernel
theorem dX1_isNamed_4 : decode cX1_isNamed 4 = .ok (.iload_n 1, 1) := by decide +kernel
theorem dX1_isNamed_5 : decode cX1_isNamed 5 = .ok (.invokestatic 42, 3) := by decide +kernel
theorem dX1_isNamed_8 : decode cX1_isNamed 8 = .ok (.aload_n 2, 1) := by decide +kernel
theorem dX1_isNamed_9 : decode cX1_isNamed 9 = .ok (.invokevirtual 45, 3) := by decide +kernel
theorem dX1_isNamed_12 : decode cX1_isNamed 12 = .ok (.if_icmp .eq 5, 3) := by decide +kernel
theorem dX1_isNamed_15 : decode cX1_isNamed 15 = .ok (.iconst 0, 1) := by decide +kernel
theorem dX1_isNamed_16 : decode cX1_isNamed 16 = .ok (.ireturn, 1) := by decide +kernel
theorem dX1_isNamed_17 : decode cX1_isNamed 17 = .ok (.iconst 0, 1) := by decide +kernel
theorem dX1_isNamed_18 : decode cX1_isNamed 18 = .ok (.istore_n 3, 1) := by decide +kernel
theorem dX1_isNamed_19 : decode cX1_isNamed 19 = .ok (.iload_n 3, 1) := by decide +kernel
theorem dX1_isNamed_20 : decode cX1_isNamed 20 = .ok (.aload_n 2, 1) := by decide +kernel
theorem dX1_isNamed_21 : decode cX1_isNamed 21 = .ok (.invokevirtual 45, 3) := by decide +kernel
theorem dX1_isNamed_24 : decode cX1_isNamed 24 = .ok (.if_icmp .ge 35, 3) := by decide +kernel
theorem dX1_isNamed_27 : decode cX1_isNamed 27 = .ok (.aload_n 0, 1) := by decide +kernel
theorem dX1_isNamed_28 : decode cX1_isNamed 28 = .ok (.getfield 12, 3) := by decide +kernel
theorem dX1_isNamed_31 : decode cX1_isNamed 31 = .ok (.iload_n 1, 1) := by decide +kernel
theorem dX1_isNamed_32 : decode cX1_isNamed 32 = .ok (.iload_n 3, 1) := by decide +kernel
theorem dX1_isNamed_33 : decode cX1_isNamed 33 = .ok (.iadd, 1) := by decide +kernel
theorem dX1_isNamed_34 : decode cX1_isNamed 34 = .ok (.invokevirtual 49, 3) := by decide +kernel
theorem dX1_isNamed_37 : decode cX1_isNamed 37 = .ok (.invokestatic 73, 3) := by decide +kernel
theorem dX1_isNamed_40 : decode cX1_isNamed 40 = .ok (.aload_n 2, 1) := by decide +kernel
theorem dX1_isNamed_41 : decode cX1_isNamed 41 = .ok (.iload_n 3, 1) := by decide +kernel
theorem dX1_isNamed_42 : decode cX1_isNamed 42 = .ok (.invokevirtual 49, 3) := by decide +kernel
theorem dX1_isNamed_45 : decode cX1_isNamed 45 = .ok (.invokestatic 73, 3) := by decide +kernel
theorem dX1_isNamed_48 : decode cX1_isNamed 48 = .ok (.if_icmp .eq 5, 3) := by decide +kernel
theorem dX1_isNamed_51 : decode cX1_isNamed 51 = .ok (.iconst 0, 1) := by decide +kernel
theorem dX1_isNamed_52 : decode cX1_isNamed 52 = .ok (.ireturn, 1) := by decide +kernel
theorem dX1_isNamed_53 : decode cX1_isNamed 53 = .ok (.iinc 3 1, 3) := by decide +kernel
theorem dX1_isNamed_56 : decode cX1_isNamed 56 = .ok (.goto (-37), 3) := by decide +kernel
theorem dX1_isNamed_59 : decode cX1_isNamed 59 = .ok (.iconst 1, 1) := by decide +kernel
theorem dX1_isNamed_60 : decode cX1_isNamed 60 = .ok (.ireturn, 1) := by decide +kernel
theorem hyX1_isNamed : yX1_isNamed.cls ≠ "java/lang/invoke/MethodHandle" ∧ yX1_isNamed.cls ≠ "java/lang/invoke/VarHandle" ∧ (parseMethodDescriptor yX1_isNamed.desc).map (fun d => d.parameters.length) = some 2 := by decide +kernel
abbrev J_X1_isNamed_19 (E : gx_E) (v0 : Nat) (v1 : Int32) (v2 : Nat) (v3 : Int32) (u : gx_S) : Prop := gx_Wc E 4 19 [(0, .ref (ex_ad E v0)), (1, .int v1), (2, .ref (ex_ad E v2)), (3, .int v3)] [] u
set_option maxHeartbeats 4000000 in
set_option maxRecDepth 100000 in
theorem w_X1_isNamed_0 {E : gx_E} (X : gx_X E cX1_isNamed 4 RX1 (some .boolean)) (hd : 3 ≤ ex_d E) {post : Int32 → gx_S → Prop} (hQ : ex_Q E = va_Qi post (gx_B (ex_Z E)) (gx_A (ex_Z E))) {u : gx_S} {v0 : Nat} {v1 : Int32} {v2 : Nat} (h : (gx_isO v0 1 ∧ (S_X1_nameLength u (gx_r u v0 0) v1 (fun (r3 : Int32) (u2 : gx_S) => (gx_isO v2 0 ∧ S_X0_size u2 v2 (fun (r6 : Int32) (u5 : gx_S) => ((r3 = r6 → J_X1_isNamed_19 E v0 v1 v2 (0 : Int32) u5) ∧ (¬ r3 = r6 → post (0 : Int32) u5)))))))) : gx_Wc E 4 0 [(0, .ref (ex_ad E v0)), (1, .int v1), (2, .ref (ex_ad E v2))] [] u := by
  refine gx_aload_n X (j := 0) dX1_isNamed_0 rfl rfl ?_
  obtain ⟨k1, h⟩ := h
  refine gx_get X k1 rfl iwX1 0 (by decide) mw_46 (v := .ref (ex_ad E (gx_r u v0 0))) rfl dX1_isNamed_1 ?_
  refine gx_iload_n X (j := 1) dX1_isNamed_4 rfl rfl ?_
  refine gx_ki (gx_rS X (c_X1_nameLength h) (Nat.le_trans (by decide) hd) (Nat.le_trans (by decide) (Nat.mul_le_mul_left 40 hd)) mw_166 mw_167 mw_3 mw_168 hyX1_nameLength (As := [.ref (ex_ad E (gx_r u v0 0)), .int v1]) (rest := []) rfl rfl (Nat.le_of_ble_eq_true rfl) dX1_isNamed_5) (fun r3 u2 h => ?_)
  refine gx_aload_n X (j := 2) dX1_isNamed_8 rfl rfl ?_
  obtain ⟨k4, h⟩ := h
  refine gx_ki (gx_rV X (c_X0_size h) (Nat.le_trans (by decide) hd) (Nat.le_trans (by decide) (Nat.mul_le_mul_left 40 hd)) k4 rfl mw_161 mw_128 mw_129 mw_2 mw_130 hyX0_size (As := []) (rest := [.int r3]) rfl rfl (Nat.le_of_ble_eq_true rfl) dX1_isNamed_9) (fun r6 u5 h => ?_)
  refine gx_icmp_eq X (tgt := 17) dX1_isNamed_12 (by decide) (fun c7 => ?_) (fun c7 => ?_)
  · replace h := h.1 c7
    refine gx_iconst X (v := 0) dX1_isNamed_17 (by decide) ?_
    refine gx_istore_n X (lv' := [(3, .int (0 : Int32)), (0, .ref (ex_ad E v0)), (1, .int v1), (2, .ref (ex_ad E v2))]) dX1_isNamed_18 rfl (by decide) rfl ?_
    exact gx_sub [1, 2, 3, 0] rfl h
  · replace h := h.2 c7
    refine gx_iconst X (v := 0) dX1_isNamed_15 (by decide) ?_
    exact gx_zret X hQ rfl h dX1_isNamed_16
set_option maxHeartbeats 4000000 in
set_option maxRecDepth 100000 in
theorem w_X1_isNamed_19 {E : gx_E} (X : gx_X E cX1_isNamed 4 RX1 (some .boolean)) (hd : 3 ≤ ex_d E) {post : Int32 → gx_S → Prop} (hQ : ex_Q E = va_Qi post (gx_B (ex_Z E)) (gx_A (ex_Z E))) {u : gx_S} {v0 : Nat} {v1 : Int32} {v2 : Nat} {v3 : Int32} (h : (gx_isO v2 0 ∧ S_X0_size u v2 (fun (r3 : Int32) (u2 : gx_S) => ((r3 ≤ v3 → post (1 : Int32) u2) ∧ (¬ r3 ≤ v3 → (gx_isO v0 1 ∧ (gx_isO (gx_r u2 v0 0) 0 ∧ S_X0_at u2 (gx_r u2 v0 0) (v1 + v3) (fun (r7 : Int32) (u6 : gx_S) => (S_X6_small u6 r7 (fun (r9 : Int32) (u8 : gx_S) => (S_X0_at u8 v2 v3 (fun (r11 : Int32) (u10 : gx_S) => (S_X6_small u10 r11 (fun (r13 : Int32) (u12 : gx_S) => ((r9 = r13 → (∀ x14 : Int32, x14 = v3 + 1 → J_X1_isNamed_19 E v0 v1 v2 x14 u12)) ∧ (¬ r9 = r13 → post (0 : Int32) u12)))))))))))))))) : gx_Wc E 4 19 [(0, .ref (ex_ad E v0)), (1, .int v1), (2, .ref (ex_ad E v2)), (3, .int v3)] [] u := by
  refine gx_iload_n X (j := 3) dX1_isNamed_19 rfl rfl ?_
  refine gx_aload_n X (j := 2) dX1_isNamed_20 rfl rfl ?_
  obtain ⟨k1, h⟩ := h
  refine gx_ki (gx_rV X (c_X0_size h) (Nat.le_trans (by decide) hd) (Nat.le_trans (by decide) (Nat.mul_le_mul_left 40 hd)) k1 rfl mw_161 mw_128 mw_129 mw_2 mw_130 hyX0_size (As := []) (rest := [.int v3]) rfl rfl (Nat.le_of_ble_eq_true rfl) dX1_isNamed_21) (fun r3 u2 h => ?_)
  refine gx_icmp_ge X (tgt := 59) dX1_isNamed_24 (by decide) (fun c16 => ?_) (fun c16 => ?_)
  · replace h := h.1 c16
    refine gx_iconst X (v := 1) dX1_isNamed_59 (by decide) ?_
    exact gx_zret X hQ rfl h dX1_isNamed_60
  · replace h := h.2 c16
    refine gx_aload_n X (j := 0) dX1_isNamed_27 rfl rfl ?_
    obtain ⟨k4, h⟩ := h
    refine gx_get X k4 rfl iwX1 0 (by decide) mw_46 (v := .ref (ex_ad E (gx_r u2 v0 0))) rfl dX1_isNamed_28 ?_
    refine gx_iload_n X (j := 1) dX1_isNamed_31 rfl rfl ?_
    refine gx_iload_n X (j := 3) dX1_isNamed_32 rfl rfl ?_
    refine gx_iadd X dX1_isNamed_33 ?_
    obtain ⟨k5, h⟩ := h
    refine gx_ki (gx_rV X (c_X0_at h) (Nat.le_trans (by decide) hd) (Nat.le_trans (by decide) (Nat.mul_le_mul_left 40 hd)) k5 rfl mw_162 mw_163 mw_164 mw_2 mw_165 hyX0_at (As := [.int (v1 + v3)]) (rest := []) rfl rfl (Nat.le_of_ble_eq_true rfl) dX1_isNamed_34) (fun r7 u6 h => ?_)
    refine gx_ki (gx_rSN X (c_X6_small h) (Nat.le_trans (by decide) hd) (Nat.le_trans (by decide) (Nat.mul_le_mul_left 40 hd)) mn_4 mw_232 mw_1 mw_233 hyX6_small (As := [.int r7]) (rest := []) rfl rfl (Nat.le_of_ble_eq_true rfl) dX1_isNamed_37) (fun r9 u8 h => ?_)
    refine gx_aload_n X (j := 2) dX1_isNamed_40 rfl rfl ?_
    refine gx_iload_n X (j := 3) dX1_isNamed_41 rfl rfl ?_
    refine gx_ki (gx_rV X (c_X0_at h) (Nat.le_trans (by decide) hd) (Nat.le_trans (by decide) (Nat.mul_le_mul_left 40 hd)) k1 rfl mw_162 mw_163 mw_164 mw_2 mw_165 hyX0_at (As := [.int v3]) (rest := [.int r9]) rfl rfl (Nat.le_of_ble_eq_true rfl) dX1_isNamed_42) (fun r11 u10 h => ?_)
    refine gx_ki (gx_rSN X (c_X6_small h) (Nat.le_trans (by decide) hd) (Nat.le_trans (by decide) (Nat.mul_le_mul_left 40 hd)) mn_4 mw_232 mw_1 mw_233 hyX6_small (As := [.int r11]) (rest := [.int r9]) rfl rfl (Nat.le_of_ble_eq_true rfl) dX1_isNamed_45) (fun r13 u12 h => ?_)
    refine gx_icmp_eq X (tgt := 53) dX1_isNamed_48 (by decide) (fun c15 => ?_) (fun c15 => ?_)
    · replace h := h.1 c15
      obtain ⟨x14, ex14⟩ : ∃ y : Int32, y = v3 + 1 := ⟨_, rfl⟩
      replace h := h x14 ex14
      refine gx_iinc X (v := x14) (lv' := [(3, .int x14), (0, .ref (ex_ad E v0)), (1, .int v1), (2, .ref (ex_ad E v2))]) dX1_isNamed_53 (j := 3) rfl (by rw [ex14]; rfl) (by decide) rfl ?_
      refine gx_goto X (tgt := 19) dX1_isNamed_56 (by decide) ?_
      exact gx_sub [1, 2, 3, 0] rfl h
    · replace h := h.2 c15
      refine gx_iconst X (v := 0) dX1_isNamed_51 (by decide) ?_
      exact gx_zret X hQ rfl h dX1_isNamed_52
/-- where the class's references go -/
def rCl : List (List Nat) := [[1, 2, 3, 5, 7, 8], [9], [10], [4, 13], [11], [6], [12], [14, 15, 16], [17, 18, 19, 20]]
def rC (o k : Nat) : Nat := (rCl.getD o []).getD k 0
def cfix (u : gx_S) : Prop := ∀ o k, o < 9 → gx_r u o k = rC o k
theorem isO_x (o ci : Nat) (h : (decide (o < gx_Nw) && (match gx_kd o with | .inr c => c == ci | .inl _ => false)) = true) : gx_isO o ci := by
  simp only [Bool.and_eq_true, decide_eq_true_eq] at h
  refine ⟨h.1, ?_⟩
  have h2 := h.2
  revert h2
  cases gx_kd o with
  | inl q => intro h; cases h
  | inr c => intro h; rw [beq_iff_eq.mp h]
theorem isA_x (a : Nat) (ty : FieldType) (h1 : a < gx_Nw) (h2 : gx_kd a = .inl (gx_len a, ty)) : gx_isA a ty := ⟨h1, h2⟩
/-- the places of the fields -/
def plc (M : List Nat) : Nat → Nat
  | 0 => 0
  | k + 1 => fst_ M (plc M k)
theorem plc_le (M : List Nat) (k : Nat) : plc M k ≤ M.length := by
  cases k with
  | zero => exact Nat.zero_le _
  | succ k => exact fst_le M _
def S_X1_read (u : gx_S) (v0 v1 : Nat) (post : Int32 → gx_S → Prop) : Prop := v0 = 3 ∧ v1 = 1 ∧ cfix u ∧ ∃ T M : List Nat, byL u 1 T ∧ byL u 4 M ∧ gx_a u 13 0 = 0 ∧ (cnt T = 0 → post (-1) u) ∧ (cnt T ≠ 0 → ∀ f g : Nat → Int32, rdb T f → (∀ k, k ≤ cnt T → g k = nI (plc T k)) → post (nI (cnt T)) (gx_pa (gx_pi (byW u 4 f T.length) 3 2 (nI (cnt T))) 13 g))
theorem isA13 : gx_isA 13 .int := ⟨by decide, rfl⟩
theorem lp_X1_read {E : gx_E} (X : gx_X E cX1_read 4 RX1 (some .int)) (hd : 4 ≤ ex_d E) {post : Int32 → gx_S → Prop} (hQ : ex_Q E = va_Qi post (gx_B (ex_Z E)) (gx_A (ex_Z E))) {T : List Nat} :
    ∀ (n k : Nat) (u : gx_S), cnt T - k = n → k ≤ cnt T → cfix u → byL u 4 T → (∀ j, j ≤ k → gx_a u 13 j = nI (plc T j)) → (∀ g : Nat → Int32, (∀ j, j ≤ cnt T → g j = nI (plc T j)) → post (nI (cnt T)) (gx_pa u 13 g)) → J_X1_read_26 E 3 1 (nI (cnt T)) (nI k) u := by
  have h20 := cnt_le T
  intro n
  induction n with
  | zero =>
    intro k u hn hk hf hT hg hp
    refine w_X1_read_26 X hd hQ ⟨fun _ => ?_, fun q => absurd (nI_le (by omega) (by omega)) q⟩
    have := hp (gx_a u 13) (fun j hj => hg j (by omega))
    rwa [gx_pa_self] at this
  | succ n ih =>
    intro k u hn hk hf hT hg hp
    have hT2 := hT.2.2.2.2.1
    have e1 : gx_r u 3 1 = 13 := hf 3 1 (by decide)
    have e0 : gx_r u 3 0 = 4 := hf 3 0 (by decide)
    refine w_X1_read_26 X hd hQ ⟨fun q => absurd q (nI_ge (by omega) (by omega)), fun _ => ?_⟩
    rw [e1, e0]
    refine ⟨isO_x 3 1 (by decide), isA13.r, vp_in_nI (N := 21) (by omega) (by omega), T, plc T k, hT, by have := plc_le T k; omega, ?_, ?_⟩
    · rw [nI_clamp (by omega)]; exact hg k (Nat.le_refl _)
    · refine ⟨isA13, ?_, ?_⟩
      · rw [nI_1]; exact vp_in_nI (N := 21) (by omega) (by omega)
      · rintro u8 rfl x9 rfl
        rw [nI_1, nI_clamp (by omega)]
        refine ih (k + 1) _ (by omega) (by omega) hf (byL_pa hT (by rw [hf 4 0 (by decide)]; decide)) (fun j hj => ?_) (fun g hg2 => ?_)
        · rw [gx_a_pa, if_pos rfl]
          by_cases e : j = k + 1
          · subst e; rw [pk_us]; rfl
          · rw [pk_un e]; exact hg j (by omega)
        · rw [gx_pa_pa]; exact hp g hg2
theorem w_X1_read {E : gx_E} (X : gx_X E cX1_read 4 RX1 (some .int)) (hd : 4 ≤ ex_d E) {post : Int32 → gx_S → Prop} (hQ : ex_Q E = va_Qi post (gx_B (ex_Z E)) (gx_A (ex_Z E))) {u : gx_S} {v0 v1 : Nat} (h : S_X1_read u v0 v1 post) : gx_Wc E 4 0 [(0, .ref (ex_ad E v0)), (1, .ref (ex_ad E v1))] [] u := by
  obtain ⟨rfl, rfl, hf, T, M, hT, hM, h0, hz, hp⟩ := h
  have h20 := cnt_le T
  refine w_X1_read_0 X hd hQ ⟨T, hT, ⟨fun q => ?_, fun q => ?_⟩⟩
  · have hc : cnt T ≠ 0 := fun e => q (by rw [e]; rfl)
    rw [show gx_r u 3 0 = 4 from hf 3 0 (by decide)]
    refine ⟨isO_x 3 1 (by decide), isO_x 4 0 (by decide), i_X0_become hM hT (by decide) (by rw [hf 1 0 (by decide), hf 4 0 (by decide)]; decide) (fun f hf2 => ?_)⟩
    rintro u6 rfl
    have hB : byL (byW u 4 f T.length) 4 T := byL_W hM hf2 hT.2.2.2.2.1
    refine lp_X1_read X hd hQ (cnt T) 0 _ (by omega) (by omega) (fun o k h => hf o k h) (byL_pi hB (by decide)) (fun j hj => ?_) (fun g hg => hp hc f g hf2 hg)
    rw [show j = 0 by omega, gx_a_pi, byW_a, if_neg (by rw [hf 4 0 (by decide)]; decide)]
    exact h0
  · exact hz ((nI_eq (b := 0) (by omega) (by omega)).mp q)
theorem c_X1_read {l : Launch} {Z : gx_Z} {u : gx_S} {v0 : Nat} {v1 : Nat} {post : Int32 → gx_S → Prop} (h : S_X1_read u v0 v1 post) : Met l yX1_read (Cond.code yX1_read cX1_read 4 (some .int) :: gx_TB) (gx_rm 4) (gx_Pre Z u [.ref (Z.2.1 v0), .ref (Z.2.1 v1)]) (va_Qi post (gx_B Z) (gx_A Z)) 0 0 (gx_A Z) := by
  refine gx_met (by decide +kernel) (Nat.le_of_ble_eq_true rfl) ?_
  intro E X hZ hQ hD hL
  subst hZ
  exact w_X1_read X (Nat.le_of_eq hD.symm) hQ h
theorem cI_inj {a b : Nat} (ha : a < 256 ∨ a = 999) (hb : b < 256 ∨ b = 999) : cI a = cI b ↔ a = b := by
  constructor
  · intro h
    rcases hb with hb | rfl
    · rw [cI_lo hb] at h; exact (cI_eq hb).mp h
    · rcases ha with ha | rfl
      · rw [cI_lo ha] at h; exact absurd ((cI_eq ha).mp h.symm) (by omega)
      · rfl
  · intro h; rw [h]
theorem sml_alt {c : Nat} (h : c < 256 ∨ c = 999) : sml c < 256 ∨ sml c = 999 := by
  unfold sml isG
  rcases h with h | rfl
  · left; split
    · rename_i q; simp at q; omega
    · exact h
  · right; rfl
def cmpF (M : List Nat) (p : Nat) (N : List Nat) : Nat → Nat → Bool
  | 0, _ => true
  | k + 1, i => if sml (ch M (p + i)) = sml (ch N i) then cmpF M p N k (i + 1) else false
def isNm (M : List Nat) (p : Nat) (N : List Nat) : Bool := if nameLen M p = N.length then cmpF M p N N.length 0 else false
def S_X1_isNamed (u : gx_S) (v0 : Nat) (v1 : Int32) (v2 : Nat) (post : Int32 → gx_S → Prop) : Prop := ∃ (M N : List Nat) (p : Nat), gx_isO v0 1 ∧ byL u (gx_r u v0 0) M ∧ byL u v2 N ∧ p < 2 ^ 29 ∧ v1 = nI p ∧ post (b2 (isNm M p N)) u
theorem lp_X1_isNamed {E : gx_E} (X : gx_X E cX1_isNamed 4 RX1 (some .boolean)) (hd : 3 ≤ ex_d E) {post : Int32 → gx_S → Prop} (hQ : ex_Q E = va_Qi post (gx_B (ex_Z E)) (gx_A (ex_Z E))) {v0 v2 p : Nat} {M N : List Nat} {u : gx_S} (h0 : gx_isO v0 1) (hM : byL u (gx_r u v0 0) M) (hN : byL u v2 N) (hp : p < 2 ^ 29) :
    ∀ (n i : Nat), N.length - i = n → i ≤ N.length → post (b2 (cmpF M p N n i)) u → J_X1_isNamed_19 E v0 (nI p) v2 (nI i) u := by
  have hN2 := hN.2.2.2.2.1
  intro n
  induction n with
  | zero =>
    intro i hn hi h
    refine w_X1_isNamed_19 X hd hQ ⟨hN.1, i_X0_size hN ⟨fun _ => h, fun q => absurd (nI_le (by omega) (by omega)) q⟩⟩
  | succ n ih =>
    intro i hn hi h
    unfold cmpF at h
    refine w_X1_isNamed_19 X hd hQ ⟨hN.1, i_X0_size hN ⟨fun q => absurd q (nI_ge (by omega) (by omega)), fun _ => ⟨h0, hM.1, ?_⟩⟩⟩
    have a1 := ch_alt hM.2.2.2.2.2.1 (p + i)
    have a2 := ch_alt hN.2.2.2.2.2.1 i
    rw [nI_add]
    refine i_X0_at hM (by omega) (i_X6_small (i_X0_at hN (by omega) (i_X6_small ⟨fun q => ?_, fun q => ?_⟩ a2)) a1)
    · rintro x14 rfl
      rw [nI_1]
      rw [if_pos ((cI_inj (sml_alt a1) (sml_alt a2)).mp q)] at h
      exact ih (i + 1) (by omega) (by omega) h
    · rw [if_neg (fun e => q ((cI_inj (sml_alt a1) (sml_alt a2)).mpr e))] at h
      exact h
theorem w_X1_isNamed {E : gx_E} (X : gx_X E cX1_isNamed 4 RX1 (some .boolean)) (hd : 3 ≤ ex_d E) {post : Int32 → gx_S → Prop} (hQ : ex_Q E = va_Qi post (gx_B (ex_Z E)) (gx_A (ex_Z E))) {u : gx_S} {v0 : Nat} {v1 : Int32} {v2 : Nat} (h : S_X1_isNamed u v0 v1 v2 post) : gx_Wc E 4 0 [(0, .ref (ex_ad E v0)), (1, .int v1), (2, .ref (ex_ad E v2))] [] u := by
  obtain ⟨M, N, p, h0, hM, hN, hp, rfl, h⟩ := h
  have hN2 := hN.2.2.2.2.1
  have h20 := nameLen_le M p
  refine w_X1_isNamed_0 X hd hQ ⟨h0, M, p, hM, by omega, rfl, hN.1, i_X0_size hN ⟨fun q => ?_, fun q => ?_⟩⟩
  · have q2 := (nI_eq (by omega) (by omega)).mp q
    unfold isNm at h
    rw [if_pos q2] at h
    exact lp_X1_isNamed X hd hQ h0 hM hN hp N.length 0 (by omega) (by omega) h
  · unfold isNm at h
    rw [if_neg (fun e => q (by rw [e]))] at h
    exact h
theorem c_X1_isNamed {l : Launch} {Z : gx_Z} {u : gx_S} {v0 : Nat} {v1 : Int32} {v2 : Nat} {post : Int32 → gx_S → Prop} (h : S_X1_isNamed u v0 v1 v2 post) : Met l yX1_isNamed (Cond.code yX1_isNamed cX1_isNamed 4 (some .boolean) :: gx_TB) (gx_rm 3) (gx_Pre Z u [.ref (Z.2.1 v0), .int v1, .ref (Z.2.1 v2)]) (va_Qi post (gx_B Z) (gx_A Z)) 0 0 (gx_A Z) := by
  refine gx_met (by decide +kernel) (Nat.le_of_ble_eq_true rfl) ?_
  intro E X hZ hQ hD hL
  subst hZ
  exact w_X1_isNamed X (Nat.le_of_eq hD.symm) hQ h
-- PlainSeal$Mail.countNamed(LPlainSeal$Bytes;)I
theorem dX1_countNamed_0 : decode cX1_countNamed 0 = .ok (.iconst 0, 1) := by decide +kernel
theorem dX1_countNamed_1 : decode cX1_countNamed 1 = .ok (.istore_n 2, 1) := by decide +kernel
theorem dX1_countNamed_2 : decode cX1_countNamed 2 = .ok (.iconst 0, 1) := by decide +kernel
theorem dX1_countNamed_3 : decode cX1_countNamed 3 = .ok (.istore_n 3, 1) := by decide +kernel
theorem dX1_countNamed_4 : decode cX1_countNamed 4 = .ok (.iload_n 3, 1) := by decide +kernel
theorem dX1_countNamed_5 : decode cX1_countNamed 5 = .ok (.aload_n 0, 1) := by decide +kernel
theorem dX1_countNamed_6 : decode cX1_countNamed 6 = .ok (.getfield 22, 3) := by decide +kernel
theorem dX1_countNamed_9 : decode cX1_countNamed 9 = .ok (.if_icmp .ge 26, 3) := by decide +kernel
theorem dX1_countNamed_12 : decode cX1_countNamed 12 = .ok (.aload_n 0, 1) := by decide +kernel
theorem dX1_countNamed_13 : decode cX1_countNamed 13 = .ok (.aload_n 0, 1) := by decide +kernel
theorem dX1_countNamed_14 : decode cX1_countNamed 14 = .ok (.getfield 18, 3) := by decide +kernel
theorem dX1_countNamed_17 : decode cX1_countNamed 17 = .ok (.iload_n 3, 1) := by decide +kernel
theorem dX1_countNamed_18 : decode cX1_countNamed 18 = .ok (.iaload, 1) := by decide +kernel
theorem dX1_countNamed_19 : decode cX1_countNamed 19 = .ok (.aload_n 1, 1) := by decide +kernel
theorem dX1_countNamed_20 : decode cX1_countNamed 20 = .ok (.invokevirtual 69, 3) := by decide +kernel
theorem dX1_countNamed_23 : decode cX1_countNamed 23 = .ok (.ifCond .eq 6, 3) := by decide +kernel
theorem dX1_countNamed_26 : decode cX1_countNamed 26 = .ok (.iinc 2 1, 3) := by decide +kernel
theorem dX1_countNamed_29 : decode cX1_countNamed 29 = .ok (.iinc 3 1, 3) := by decide +kernel
theorem dX1_countNamed_32 : decode cX1_countNamed 32 = .ok (.goto (-28), 3) := by decide +kernel
theorem dX1_countNamed_35 : decode cX1_countNamed 35 = .ok (.iload_n 2, 1) := by decide +kernel
theorem dX1_countNamed_36 : decode cX1_countNamed 36 = .ok (.ireturn, 1) := by decide +kernel
theorem hyX1_countNamed : yX1_countNamed.cls ≠ "java/lang/invoke/MethodHandle" ∧ yX1_countNamed.cls ≠ "java/lang/invoke/VarHandle" ∧ (parseMethodDescriptor yX1_countNamed.desc).map (fun d => d.parameters.length) = some 1 := by decide +kernel
abbrev J_X1_countNamed_4 (E : gx_E) (v0 : Nat) (v1 : Nat) (v2 : Int32) (v3 : Int32) (u : gx_S) : Prop := gx_Wc E 4 4 [(0, .ref (ex_ad E v0)), (1, .ref (ex_ad E v1)), (2, .int v2), (3, .int v3)] [] u
set_option maxHeartbeats 4000000 in
set_option maxRecDepth 100000 in
theorem w_X1_countNamed_0 {E : gx_E} (X : gx_X E cX1_countNamed 4 RX1 (some .int)) (hd : 4 ≤ ex_d E) {post : Int32 → gx_S → Prop} (hQ : ex_Q E = va_Qi post (gx_B (ex_Z E)) (gx_A (ex_Z E))) {u : gx_S} {v0 : Nat} {v1 : Nat} (h : J_X1_countNamed_4 E v0 v1 (0 : Int32) (0 : Int32) u) : gx_Wc E 4 0 [(0, .ref (ex_ad E v0)), (1, .ref (ex_ad E v1))] [] u := by
  refine gx_iconst X (v := 0) dX1_countNamed_0 (by decide) ?_
  refine gx_istore_n X (lv' := [(2, .int (0 : Int32)), (0, .ref (ex_ad E v0)), (1, .ref (ex_ad E v1))]) dX1_countNamed_1 rfl (by decide) rfl ?_
  refine gx_iconst X (v := 0) dX1_countNamed_2 (by decide) ?_
  refine gx_istore_n X (lv' := [(3, .int (0 : Int32)), (2, .int (0 : Int32)), (0, .ref (ex_ad E v0)), (1, .ref (ex_ad E v1))]) dX1_countNamed_3 rfl (by decide) rfl ?_
  exact gx_sub [2, 3, 1, 0] rfl h
set_option maxHeartbeats 4000000 in
set_option maxRecDepth 100000 in
theorem w_X1_countNamed_4 {E : gx_E} (X : gx_X E cX1_countNamed 4 RX1 (some .int)) (hd : 4 ≤ ex_d E) {post : Int32 → gx_S → Prop} (hQ : ex_Q E = va_Qi post (gx_B (ex_Z E)) (gx_A (ex_Z E))) {u : gx_S} {v0 : Nat} {v1 : Nat} {v2 : Int32} {v3 : Int32} (h : (gx_isO v0 1 ∧ (((gx_i u v0 2) ≤ v3 → post v2 u) ∧ (¬ (gx_i u v0 2) ≤ v3 → (gx_isR (gx_r u v0 1) .int ∧ vp_in v3 (gx_len (gx_r u v0 1)) ∧ (S_X1_isNamed u v0 (gx_a u (gx_r u v0 1) v3.toNatClampNeg) v1 (fun (r5 : Int32) (u4 : gx_S) => ((r5 = 0 → (∀ x6 : Int32, x6 = v3 + 1 → J_X1_countNamed_4 E v0 v1 v2 x6 u4)) ∧ (¬ r5 = 0 → (∀ x7 : Int32, x7 = v2 + 1 → (∀ x8 : Int32, x8 = v3 + 1 → J_X1_countNamed_4 E v0 v1 x7 x8 u4))))))))))) : gx_Wc E 4 4 [(0, .ref (ex_ad E v0)), (1, .ref (ex_ad E v1)), (2, .int v2), (3, .int v3)] [] u := by
  refine gx_iload_n X (j := 3) dX1_countNamed_4 rfl rfl ?_
  refine gx_aload_n X (j := 0) dX1_countNamed_5 rfl rfl ?_
  obtain ⟨k1, h⟩ := h
  refine gx_get X k1 rfl iwX1 2 (by decide) mw_48 (v := .int (gx_i u v0 2)) rfl dX1_countNamed_6 ?_
  refine gx_icmp_ge X (tgt := 35) dX1_countNamed_9 (by decide) (fun c10 => ?_) (fun c10 => ?_)
  · replace h := h.1 c10
    refine gx_iload_n X (j := 2) dX1_countNamed_35 rfl rfl ?_
    exact gx_iret X hQ h dX1_countNamed_36
  · replace h := h.2 c10
    refine gx_aload_n X (j := 0) dX1_countNamed_12 rfl rfl ?_
    refine gx_aload_n X (j := 0) dX1_countNamed_13 rfl rfl ?_
    refine gx_get X k1 rfl iwX1 1 (by decide) mw_47 (v := .ref (ex_ad E (gx_r u v0 1))) rfl dX1_countNamed_14 ?_
    refine gx_iload_n X (j := 3) dX1_countNamed_17 rfl rfl ?_
    obtain ⟨k2, h⟩ := h
    obtain ⟨k3, h⟩ := h
    refine gx_iald X k2 k3 dX1_countNamed_18 ?_
    refine gx_aload_n X (j := 1) dX1_countNamed_19 rfl rfl ?_
    refine gx_ki (gx_rV X (c_X1_isNamed h) (Nat.le_trans (by decide) hd) (Nat.le_trans (by decide) (Nat.mul_le_mul_left 40 hd)) k1 rfl mw_252 mw_254 mp_1 mw_3 mw_255 hyX1_isNamed (As := [.int (gx_a u (gx_r u v0 1) v3.toNatClampNeg), .ref (ex_ad E v1)]) (rest := []) rfl rfl (Nat.le_of_ble_eq_true rfl) dX1_countNamed_20) (fun r5 u4 h => ?_)
    refine gx_if_eq X (tgt := 29) dX1_countNamed_23 (by decide) (fun c9 => ?_) (fun c9 => ?_)
    · replace h := h.1 c9
      obtain ⟨x6, ex6⟩ : ∃ y : Int32, y = v3 + 1 := ⟨_, rfl⟩
      replace h := h x6 ex6
      refine gx_iinc X (v := x6) (lv' := [(3, .int x6), (0, .ref (ex_ad E v0)), (1, .ref (ex_ad E v1)), (2, .int v2)]) dX1_countNamed_29 (j := 3) rfl (by rw [ex6]; rfl) (by decide) rfl ?_
      refine gx_goto X (tgt := 4) dX1_countNamed_32 (by decide) ?_
      exact gx_sub [1, 2, 3, 0] rfl h
    · replace h := h.2 c9
      obtain ⟨x7, ex7⟩ : ∃ y : Int32, y = v2 + 1 := ⟨_, rfl⟩
      replace h := h x7 ex7
      refine gx_iinc X (v := x7) (lv' := [(2, .int x7), (0, .ref (ex_ad E v0)), (1, .ref (ex_ad E v1)), (3, .int v3)]) dX1_countNamed_26 (j := 2) rfl (by rw [ex7]; rfl) (by decide) rfl ?_
      obtain ⟨x8, ex8⟩ : ∃ y : Int32, y = v3 + 1 := ⟨_, rfl⟩
      replace h := h x8 ex8
      refine gx_iinc X (v := x8) (lv' := [(3, .int x8), (2, .int x7), (0, .ref (ex_ad E v0)), (1, .ref (ex_ad E v1))]) dX1_countNamed_29 (j := 3) rfl (by rw [ex8]; rfl) (by decide) rfl ?_
      refine gx_goto X (tgt := 4) dX1_countNamed_32 (by decide) ?_
      exact gx_sub [2, 3, 1, 0] rfl h
/-- the mail object 3 holds the message M with its k fields -/
def mlL (u : gx_S) (M : List Nat) (k : Nat) : Prop := byL u 4 M ∧ gx_i u 3 2 = nI k ∧ k ≤ 20 ∧ ∀ j, j ≤ k → gx_a u 13 j = nI (plc M j)
def cnm (M N : List Nat) : Nat → Nat
  | 0 => 0
  | k + 1 => cnm M N k + (if isNm M (plc M k) N then 1 else 0)
theorem cnm_le (M N : List Nat) : ∀ k, cnm M N k ≤ k
  | 0 => Nat.le_refl _
  | k + 1 => by
    have := cnm_le M N k
    unfold cnm
    split <;> omega
def S_X1_countNamed (u : gx_S) (v0 v1 : Nat) (post : Int32 → gx_S → Prop) : Prop := v0 = 3 ∧ cfix u ∧ ∃ (M N : List Nat) (k : Nat), mlL u M k ∧ byL u v1 N ∧ post (nI (cnm M N k)) u
theorem lp_X1_countNamed {E : gx_E} (X : gx_X E cX1_countNamed 4 RX1 (some .int)) (hd : 4 ≤ ex_d E) {post : Int32 → gx_S → Prop} (hQ : ex_Q E = va_Qi post (gx_B (ex_Z E)) (gx_A (ex_Z E))) {v1 k : Nat} {M N : List Nat} {u : gx_S} (hf : cfix u) (hM : mlL u M k) (hN : byL u v1 N) (h : post (nI (cnm M N k)) u) :
    ∀ (n i : Nat), k - i = n → i ≤ k → J_X1_countNamed_4 E 3 v1 (nI (cnm M N i)) (nI i) u := by
  obtain ⟨m1, m2, m3, m4⟩ := hM
  have hM2 := m1.2.2.2.2.1
  have e1 : gx_r u 3 1 = 13 := hf 3 1 (by decide)
  have e0 : gx_r u 3 0 = 4 := hf 3 0 (by decide)
  intro n
  induction n with
  | zero =>
    intro i hn hi
    refine w_X1_countNamed_4 X hd hQ ⟨isO_x 3 1 (by decide), fun _ => ?_, fun q => ?_⟩
    · rw [show i = k by omega]; exact h
    · rw [m2] at q; exact absurd (nI_le (by omega) (by omega)) q
  | succ n ih =>
    intro i hn hi
    have hc := cnm_le M N i
    have hpl := plc_le M i
    refine w_X1_countNamed_4 X hd hQ ⟨isO_x 3 1 (by decide), fun q => ?_, fun _ => ?_⟩
    · rw [m2] at q; exact absurd q (nI_ge (by omega) (by omega))
    · rw [e1]
      refine ⟨isA13.r, vp_in_nI (N := 21) (by omega) (by omega), M, N, plc M i, isO_x 3 1 (by decide), by rw [e0]; exact m1, hN, by omega, ?_, ⟨fun q => ?_, fun q => ?_⟩⟩
      · rw [nI_clamp (by omega)]; exact m4 i (by omega)
      · rintro x6 rfl
        rw [nI_1]
        rw [b2_0] at q
        have := ih (i + 1) (by omega) (by omega)
        rw [show cnm M N (i + 1) = cnm M N i by rw [cnm, q]; rfl] at this
        exact this
      · rintro x7 rfl x8 rfl
        rw [nI_1, nI_1]
        have := ih (i + 1) (by omega) (by omega)
        rw [show cnm M N (i + 1) = cnm M N i + 1 by rw [cnm, b2_n0 q]; rfl] at this
        exact this
theorem w_X1_countNamed {E : gx_E} (X : gx_X E cX1_countNamed 4 RX1 (some .int)) (hd : 4 ≤ ex_d E) {post : Int32 → gx_S → Prop} (hQ : ex_Q E = va_Qi post (gx_B (ex_Z E)) (gx_A (ex_Z E))) {u : gx_S} {v0 v1 : Nat} (h : S_X1_countNamed u v0 v1 post) : gx_Wc E 4 0 [(0, .ref (ex_ad E v0)), (1, .ref (ex_ad E v1))] [] u := by
  obtain ⟨rfl, hf, M, N, k, hM, hN, h⟩ := h
  exact w_X1_countNamed_0 X hd hQ (lp_X1_countNamed X hd hQ hf hM hN h k 0 (by omega) (by omega))
theorem c_X1_countNamed {l : Launch} {Z : gx_Z} {u : gx_S} {v0 : Nat} {v1 : Nat} {post : Int32 → gx_S → Prop} (h : S_X1_countNamed u v0 v1 post) : Met l yX1_countNamed (Cond.code yX1_countNamed cX1_countNamed 4 (some .int) :: gx_TB) (gx_rm 4) (gx_Pre Z u [.ref (Z.2.1 v0), .ref (Z.2.1 v1)]) (va_Qi post (gx_B Z) (gx_A Z)) 0 0 (gx_A Z) := by
  refine gx_met (by decide +kernel) (Nat.le_of_ble_eq_true rfl) ?_
  intro E X hZ hQ hD hL
  subst hZ
  exact w_X1_countNamed X (Nat.le_of_eq hD.symm) hQ h

-- PlainSeal$Sha256.turned(II)I
theorem dX3_turned_0 : decode cX3_turned 0 = .ok (.iload_n 0, 1) := by decide +kernel
theorem dX3_turned_1 : decode cX3_turned 1 = .ok (.iload_n 1, 1) := by decide +kernel
theorem dX3_turned_2 : decode cX3_turned 2 = .ok (.iushr, 1) := by decide +kernel
theorem dX3_turned_3 : decode cX3_turned 3 = .ok (.iload_n 0, 1) := by decide +kernel
theorem dX3_turned_4 : decode cX3_turned 4 = .ok (.bipush 32, 2) := by decide +kernel
theorem dX3_turned_6 : decode cX3_turned 6 = .ok (.iload_n 1, 1) := by decide +kernel
theorem dX3_turned_7 : decode cX3_turned 7 = .ok (.isub, 1) := by decide +kernel
theorem dX3_turned_8 : decode cX3_turned 8 = .ok (.ishl, 1) := by decide +kernel
theorem dX3_turned_9 : decode cX3_turned 9 = .ok (.ior, 1) := by decide +kernel
theorem dX3_turned_10 : decode cX3_turned 10 = .ok (.ireturn, 1) := by decide +kernel
theorem hyX3_turned : yX3_turned.cls ≠ "java/lang/invoke/MethodHandle" ∧ yX3_turned.cls ≠ "java/lang/invoke/VarHandle" ∧ (parseMethodDescriptor yX3_turned.desc).map (fun d => d.parameters.length) = some 2 := by decide +kernel
def S_X3_turned (u : gx_S) (v0 : Int32) (v1 : Int32) (post : Int32 → gx_S → Prop) : Prop := post (((v0.toUInt32 >>> (v1.toUInt32 &&& Int32.toUInt32 31)).toInt32) ||| (v0 <<< (((32 : Int32) - v1) &&& 31))) u
set_option maxHeartbeats 4000000 in
set_option maxRecDepth 100000 in
theorem w_X3_turned {E : gx_E} (X : gx_X E cX3_turned 2 RX3 (some .int)) (hd : 0 ≤ ex_d E) {post : Int32 → gx_S → Prop} (hQ : ex_Q E = va_Qi post (gx_B (ex_Z E)) (gx_A (ex_Z E))) {u : gx_S} {v0 : Int32} {v1 : Int32} (h : S_X3_turned u v0 v1 post) : gx_Wc E 2 0 [(0, .int v0), (1, .int v1)] [] u := by
  unfold S_X3_turned at h
  refine gx_iload_n X (j := 0) dX3_turned_0 rfl rfl ?_
  refine gx_iload_n X (j := 1) dX3_turned_1 rfl rfl ?_
  refine gx_iushr X (v := (v0.toUInt32 >>> (v1.toUInt32 &&& Int32.toUInt32 31)).toInt32) dX3_turned_2 rfl ?_
  refine gx_iload_n X (j := 0) dX3_turned_3 rfl rfl ?_
  refine gx_bipush X (v := 32) dX3_turned_4 (by decide) ?_
  refine gx_iload_n X (j := 1) dX3_turned_6 rfl rfl ?_
  refine gx_isub X dX3_turned_7 ?_
  refine gx_ishl X dX3_turned_8 ?_
  refine gx_ior X dX3_turned_9 ?_
  exact gx_iret X hQ h dX3_turned_10
theorem c_X3_turned {l : Launch} {Z : gx_Z} {u : gx_S} {v0 : Int32} {v1 : Int32} {post : Int32 → gx_S → Prop} (h : S_X3_turned u v0 v1 post) : Met l yX3_turned (Cond.code yX3_turned cX3_turned 2 (some .int) :: gx_TB) (gx_rm 0) (gx_Pre Z u [.int v0, .int v1]) (va_Qi post (gx_B Z) (gx_A Z)) 0 0 (gx_A Z) := by
  refine gx_met (by decide +kernel) (Nat.le_of_ble_eq_true rfl) ?_
  intro E X hZ hQ hD hL
  subst hZ
  exact w_X3_turned X (Nat.le_of_eq hD.symm) hQ h
-- PlainSeal$Sha256.paddedByte(LPlainSeal$Bytes;I)I
theorem dX3_paddedByte_0 : decode cX3_paddedByte 0 = .ok (.iload_n 1, 1) := by decide +kernel
theorem dX3_paddedByte_1 : decode cX3_paddedByte 1 = .ok (.aload_n 0, 1) := by decide +kernel
theorem dX3_paddedByte_2 : decode cX3_paddedByte 2 = .ok (.invokevirtual 19, 3) := by decide +kernel
theorem dX3_paddedByte_5 : decode cX3_paddedByte 5 = .ok (.if_icmp .ge 9, 3) := by decide +kernel
theorem dX3_paddedByte_8 : decode cX3_paddedByte 8 = .ok (.aload_n 0, 1) := by decide +kernel
theorem dX3_paddedByte_9 : decode cX3_paddedByte 9 = .ok (.iload_n 1, 1) := by decide +kernel
theorem dX3_paddedByte_10 : decode cX3_paddedByte 10 = .ok (.invokevirtual 59, 3) := by decide +kernel
theorem dX3_paddedByte_13 : decode cX3_paddedByte 13 = .ok (.ireturn, 1) := by decide +kernel
theorem dX3_paddedByte_14 : decode cX3_paddedByte 14 = .ok (.iload_n 1, 1) := by decide +kernel
theorem dX3_paddedByte_15 : decode cX3_paddedByte 15 = .ok (.aload_n 0, 1) := by decide +kernel
theorem dX3_paddedByte_16 : decode cX3_paddedByte 16 = .ok (.invokevirtual 19, 3) := by decide +kernel
theorem dX3_paddedByte_19 : decode cX3_paddedByte 19 = .ok (.if_icmp .ne 9, 3) := by decide +kernel
theorem dX3_paddedByte_22 : decode cX3_paddedByte 22 = .ok (.sipush 128, 3) := by decide +kernel
theorem dX3_paddedByte_25 : decode cX3_paddedByte 25 = .ok (.goto 4, 3) := by decide +kernel
theorem dX3_paddedByte_28 : decode cX3_paddedByte 28 = .ok (.iconst 0, 1) := by decide +kernel
theorem dX3_paddedByte_29 : decode cX3_paddedByte 29 = .ok (.ireturn, 1) := by decide +kernel
theorem hyX3_paddedByte : yX3_paddedByte.cls ≠ "java/lang/invoke/MethodHandle" ∧ yX3_paddedByte.cls ≠ "java/lang/invoke/VarHandle" ∧ (parseMethodDescriptor yX3_paddedByte.desc).map (fun d => d.parameters.length) = some 2 := by decide +kernel
def S_X3_paddedByte (u : gx_S) (v0 : Nat) (v1 : Int32) (post : Int32 → gx_S → Prop) : Prop := (gx_isO v0 0 ∧ S_X0_size u v0 (fun (r3 : Int32) (u2 : gx_S) => ((r3 ≤ v1 → (S_X0_size u2 v0 (fun (r5 : Int32) (u4 : gx_S) => ((¬ v1 = r5 → post (0 : Int32) u4) ∧ (v1 = r5 → post (128 : Int32) u4))))) ∧ (¬ r3 ≤ v1 → (S_X0_at u2 v0 v1 (fun (r8 : Int32) (u7 : gx_S) => post r8 u7))))))
set_option maxHeartbeats 4000000 in
set_option maxRecDepth 100000 in
theorem w_X3_paddedByte {E : gx_E} (X : gx_X E cX3_paddedByte 2 RX3 (some .int)) (hd : 1 ≤ ex_d E) {post : Int32 → gx_S → Prop} (hQ : ex_Q E = va_Qi post (gx_B (ex_Z E)) (gx_A (ex_Z E))) {u : gx_S} {v0 : Nat} {v1 : Int32} (h : S_X3_paddedByte u v0 v1 post) : gx_Wc E 2 0 [(0, .ref (ex_ad E v0)), (1, .int v1)] [] u := by
  unfold S_X3_paddedByte at h
  refine gx_iload_n X (j := 1) dX3_paddedByte_0 rfl rfl ?_
  refine gx_aload_n X (j := 0) dX3_paddedByte_1 rfl rfl ?_
  obtain ⟨k1, h⟩ := h
  refine gx_ki (gx_rV X (c_X0_size h) (Nat.le_trans (by decide) hd) (Nat.le_trans (by decide) (Nat.mul_le_mul_left 40 hd)) k1 rfl mw_334 mw_128 mw_129 mw_2 mw_130 hyX0_size (As := []) (rest := [.int v1]) rfl rfl (Nat.le_of_ble_eq_true rfl) dX3_paddedByte_2) (fun r3 u2 h => ?_)
  refine gx_icmp_ge X (tgt := 14) dX3_paddedByte_5 (by decide) (fun c9 => ?_) (fun c9 => ?_)
  · replace h := h.1 c9
    refine gx_iload_n X (j := 1) dX3_paddedByte_14 rfl rfl ?_
    refine gx_aload_n X (j := 0) dX3_paddedByte_15 rfl rfl ?_
    refine gx_ki (gx_rV X (c_X0_size h) (Nat.le_trans (by decide) hd) (Nat.le_trans (by decide) (Nat.mul_le_mul_left 40 hd)) k1 rfl mw_334 mw_128 mw_129 mw_2 mw_130 hyX0_size (As := []) (rest := [.int v1]) rfl rfl (Nat.le_of_ble_eq_true rfl) dX3_paddedByte_16) (fun r5 u4 h => ?_)
    refine gx_icmp_ne X (tgt := 28) dX3_paddedByte_19 (by decide) (fun c6 => ?_) (fun c6 => ?_)
    · replace h := h.1 c6
      refine gx_iconst X (v := 0) dX3_paddedByte_28 (by decide) ?_
      exact gx_iret X hQ h dX3_paddedByte_29
    · replace h := h.2 c6
      refine gx_sipush X (v := 128) dX3_paddedByte_22 (by decide) ?_
      refine gx_goto X (tgt := 29) dX3_paddedByte_25 (by decide) ?_
      exact gx_iret X hQ h dX3_paddedByte_29
  · replace h := h.2 c9
    refine gx_aload_n X (j := 0) dX3_paddedByte_8 rfl rfl ?_
    refine gx_iload_n X (j := 1) dX3_paddedByte_9 rfl rfl ?_
    refine gx_ki (gx_rV X (c_X0_at h) (Nat.le_trans (by decide) hd) (Nat.le_trans (by decide) (Nat.mul_le_mul_left 40 hd)) k1 rfl mw_350 mw_163 mw_164 mw_2 mw_165 hyX0_at (As := [.int v1]) (rest := []) rfl rfl (Nat.le_of_ble_eq_true rfl) dX3_paddedByte_10) (fun r8 u7 h => ?_)
    exact gx_iret X hQ h dX3_paddedByte_13
theorem c_X3_paddedByte {l : Launch} {Z : gx_Z} {u : gx_S} {v0 : Nat} {v1 : Int32} {post : Int32 → gx_S → Prop} (h : S_X3_paddedByte u v0 v1 post) : Met l yX3_paddedByte (Cond.code yX3_paddedByte cX3_paddedByte 2 (some .int) :: gx_TB) (gx_rm 1) (gx_Pre Z u [.ref (Z.2.1 v0), .int v1]) (va_Qi post (gx_B Z) (gx_A Z)) 0 0 (gx_A Z) := by
  refine gx_met (by decide +kernel) (Nat.le_of_ble_eq_true rfl) ?_
  intro E X hZ hQ hD hL
  subst hZ
  exact w_X3_paddedByte X (Nat.le_of_eq hD.symm) hQ h
-- PlainSeal$Sha256.paddedWord(LPlainSeal$Bytes;I)I
theorem dX3_paddedWord_0 : decode cX3_paddedWord 0 = .ok (.iconst 0, 1) := by decide +kernel
theorem dX3_paddedWord_1 : decode cX3_paddedWord 1 = .ok (.istore_n 2, 1) := by decide +kernel
theorem dX3_paddedWord_2 : decode cX3_paddedWord 2 = .ok (.iload_n 1, 1) := by decide +kernel
theorem dX3_paddedWord_3 : decode cX3_paddedWord 3 = .ok (.istore_n 3, 1) := by decide +kernel
theorem dX3_paddedWord_4 : decode cX3_paddedWord 4 = .ok (.iload_n 3, 1) := by decide +kernel
theorem dX3_paddedWord_5 : decode cX3_paddedWord 5 = .ok (.iload_n 1, 1) := by decide +kernel
theorem dX3_paddedWord_6 : decode cX3_paddedWord 6 = .ok (.iconst 4, 1) := by decide +kernel
theorem dX3_paddedWord_7 : decode cX3_paddedWord 7 = .ok (.iadd, 1) := by decide +kernel
theorem dX3_paddedWord_8 : decode cX3_paddedWord 8 = .ok (.if_icmp .ge 20, 3) := by decide +kernel
theorem dX3_paddedWord_11 : decode cX3_paddedWord 11 = .ok (.iload_n 2, 1) := by decide +kernel
theorem dX3_paddedWord_12 : decode cX3_paddedWord 12 = .ok (.bipush 8, 2) := by decide +kernel
theorem dX3_paddedWord_14 : decode cX3_paddedWord 14 = .ok (.ishl, 1) := by decide +kernel
theorem dX3_paddedWord_15 : decode cX3_paddedWord 15 = .ok (.aload_n 0, 1) := by decide +kernel
theorem dX3_paddedWord_16 : decode cX3_paddedWord 16 = .ok (.iload_n 3, 1) := by decide +kernel
theorem dX3_paddedWord_17 : decode cX3_paddedWord 17 = .ok (.invokestatic 56, 3) := by decide +kernel
theorem dX3_paddedWord_20 : decode cX3_paddedWord 20 = .ok (.ior, 1) := by decide +kernel
theorem dX3_paddedWord_21 : decode cX3_paddedWord 21 = .ok (.istore_n 2, 1) := by decide +kernel
theorem dX3_paddedWord_22 : decode cX3_paddedWord 22 = .ok (.iinc 3 1, 3) := by decide +kernel
theorem dX3_paddedWord_25 : decode cX3_paddedWord 25 = .ok (.goto (-21), 3) := by decide +kernel
theorem dX3_paddedWord_28 : decode cX3_paddedWord 28 = .ok (.iload_n 2, 1) := by decide +kernel
theorem dX3_paddedWord_29 : decode cX3_paddedWord 29 = .ok (.ireturn, 1) := by decide +kernel
theorem hyX3_paddedWord : yX3_paddedWord.cls ≠ "java/lang/invoke/MethodHandle" ∧ yX3_paddedWord.cls ≠ "java/lang/invoke/VarHandle" ∧ (parseMethodDescriptor yX3_paddedWord.desc).map (fun d => d.parameters.length) = some 2 := by decide +kernel
abbrev J_X3_paddedWord_4 (E : gx_E) (v0 : Nat) (v1 : Int32) (v2 : Int32) (v3 : Int32) (u : gx_S) : Prop := gx_Wc E 4 4 [(0, .ref (ex_ad E v0)), (1, .int v1), (2, .int v2), (3, .int v3)] [] u
set_option maxHeartbeats 4000000 in
set_option maxRecDepth 100000 in
theorem w_X3_paddedWord_0 {E : gx_E} (X : gx_X E cX3_paddedWord 4 RX3 (some .int)) (hd : 2 ≤ ex_d E) {post : Int32 → gx_S → Prop} (hQ : ex_Q E = va_Qi post (gx_B (ex_Z E)) (gx_A (ex_Z E))) {u : gx_S} {v0 : Nat} {v1 : Int32} (h : J_X3_paddedWord_4 E v0 v1 (0 : Int32) v1 u) : gx_Wc E 4 0 [(0, .ref (ex_ad E v0)), (1, .int v1)] [] u := by
  refine gx_iconst X (v := 0) dX3_paddedWord_0 (by decide) ?_
  refine gx_istore_n X (lv' := [(2, .int (0 : Int32)), (0, .ref (ex_ad E v0)), (1, .int v1)]) dX3_paddedWord_1 rfl (by decide) rfl ?_
  refine gx_iload_n X (j := 2) dX3_paddedWord_2 rfl rfl ?_
  refine gx_istore_n X (lv' := [(3, .int v1), (2, .int (0 : Int32)), (0, .ref (ex_ad E v0)), (1, .int v1)]) dX3_paddedWord_3 rfl (by decide) rfl ?_
  exact gx_sub [2, 3, 1, 0] rfl h
set_option maxHeartbeats 4000000 in
set_option maxRecDepth 100000 in
theorem w_X3_paddedWord_4 {E : gx_E} (X : gx_X E cX3_paddedWord 4 RX3 (some .int)) (hd : 2 ≤ ex_d E) {post : Int32 → gx_S → Prop} (hQ : ex_Q E = va_Qi post (gx_B (ex_Z E)) (gx_A (ex_Z E))) {u : gx_S} {v0 : Nat} {v1 : Int32} {v2 : Int32} {v3 : Int32} (h : (((v1 + (4 : Int32)) ≤ v3 → post v2 u) ∧ (¬ (v1 + (4 : Int32)) ≤ v3 → (S_X3_paddedByte u v0 v3 (fun (r2 : Int32) (u1 : gx_S) => (∀ x3 : Int32, x3 = ((v2 <<< ((8 : Int32) &&& 31)) ||| r2) → (∀ x4 : Int32, x4 = v3 + 1 → J_X3_paddedWord_4 E v0 v1 x3 x4 u1))))))) : gx_Wc E 4 4 [(0, .ref (ex_ad E v0)), (1, .int v1), (2, .int v2), (3, .int v3)] [] u := by
  refine gx_iload_n X (j := 3) dX3_paddedWord_4 rfl rfl ?_
  refine gx_iload_n X (j := 1) dX3_paddedWord_5 rfl rfl ?_
  refine gx_iconst X (v := 4) dX3_paddedWord_6 (by decide) ?_
  refine gx_iadd X dX3_paddedWord_7 ?_
  refine gx_icmp_ge X (tgt := 28) dX3_paddedWord_8 (by decide) (fun c5 => ?_) (fun c5 => ?_)
  · replace h := h.1 c5
    refine gx_iload_n X (j := 2) dX3_paddedWord_28 rfl rfl ?_
    exact gx_iret X hQ h dX3_paddedWord_29
  · replace h := h.2 c5
    refine gx_iload_n X (j := 2) dX3_paddedWord_11 rfl rfl ?_
    refine gx_bipush X (v := 8) dX3_paddedWord_12 (by decide) ?_
    refine gx_ishl X dX3_paddedWord_14 ?_
    refine gx_aload_n X (j := 0) dX3_paddedWord_15 rfl rfl ?_
    refine gx_iload_n X (j := 3) dX3_paddedWord_16 rfl rfl ?_
    refine gx_ki (gx_rS X (c_X3_paddedByte h) (Nat.le_trans (by decide) hd) (Nat.le_trans (by decide) (Nat.mul_le_mul_left 40 hd)) mw_347 mw_348 mw_5 mw_349 hyX3_paddedByte (As := [.ref (ex_ad E v0), .int v3]) (rest := [.int (v2 <<< ((8 : Int32) &&& 31))]) rfl rfl (Nat.le_of_ble_eq_true rfl) dX3_paddedWord_17) (fun r2 u1 h => ?_)
    refine gx_ior X dX3_paddedWord_20 ?_
    refine gx_nami (fun x3 ex3 => ?_)
    replace h := h x3 ex3
    refine gx_istore_n X (lv' := [(2, .int x3), (0, .ref (ex_ad E v0)), (1, .int v1), (3, .int v3)]) dX3_paddedWord_21 rfl (by decide) rfl ?_
    obtain ⟨x4, ex4⟩ : ∃ y : Int32, y = v3 + 1 := ⟨_, rfl⟩
    replace h := h x4 ex4
    refine gx_iinc X (v := x4) (lv' := [(3, .int x4), (2, .int x3), (0, .ref (ex_ad E v0)), (1, .int v1)]) dX3_paddedWord_22 (j := 3) rfl (by rw [ex4]; rfl) (by decide) rfl ?_
    refine gx_goto X (tgt := 4) dX3_paddedWord_25 (by decide) ?_
    exact gx_sub [2, 3, 1, 0] rfl h
-- PlainSeal$Sha256.mixRound(I)V
theorem dX3_mixRound_0 : decode cX3_mixRound 0 = .ok (.aload_n 0, 1) := by decide +kernel
theorem dX3_mixRound_1 : decode cX3_mixRound 1 = .ok (.getfield 13, 3) := by decide +kernel
theorem dX3_mixRound_4 : decode cX3_mixRound 4 = .ok (.iconst 0, 1) := by decide +kernel
theorem dX3_mixRound_5 : decode cX3_mixRound 5 = .ok (.iaload, 1) := by decide +kernel
theorem dX3_mixRound_6 : decode cX3_mixRound 6 = .ok (.istore_n 2, 1) := by decide +kernel
theorem dX3_mixRound_7 : decode cX3_mixRound 7 = .ok (.aload_n 0, 1) := by decide +kernel
theorem dX3_mixRound_8 : decode cX3_mixRound 8 = .ok (.getfield 13, 3) := by decide +kernel
theorem dX3_mixRound_11 : decode cX3_mixRound 11 = .ok (.iconst 4, 1) := by decide +kernel
theorem dX3_mixRound_12 : decode cX3_mixRound 12 = .ok (.iaload, 1) := by decide +kernel
theorem dX3_mixRound_13 : decode cX3_mixRound 13 = .ok (.istore_n 3, 1) := by decide +kernel
theorem dX3_mixRound_14 : decode cX3_mixRound 14 = .ok (.iload_n 3, 1) := by decide +kernel
theorem dX3_mixRound_15 : decode cX3_mixRound 15 = .ok (.aload_n 0, 1) := by decide +kernel
theorem dX3_mixRound_16 : decode cX3_mixRound 16 = .ok (.getfield 13, 3) := by decide +kernel
theorem dX3_mixRound_19 : decode cX3_mixRound 19 = .ok (.iconst 5, 1) := by decide +kernel
theorem dX3_mixRound_20 : decode cX3_mixRound 20 = .ok (.iaload, 1) := by decide +kernel
theorem dX3_mixRound_21 : decode cX3_mixRound 21 = .ok (.iand, 1) := by decide +kernel
theorem dX3_mixRound_22 : decode cX3_mixRound 22 = .ok (.iload_n 3, 1) := by decide +kernel
theorem dX3_mixRound_23 : decode cX3_mixRound 23 = .ok (.iconst (-1), 1) := by decide +kernel
theorem dX3_mixRound_24 : decode cX3_mixRound 24 = .ok (.ixor, 1) := by decide +kernel
theorem dX3_mixRound_25 : decode cX3_mixRound 25 = .ok (.aload_n 0, 1) := by decide +kernel
theorem dX3_mixRound_26 : decode cX3_mixRound 26 = .ok (.getfield 13, 3) := by decide +kernel
theorem dX3_mixRound_29 : decode cX3_mixRound 29 = .ok (.bipush 6, 2) := by decide +kernel
theorem dX3_mixRound_31 : decode cX3_mixRound 31 = .ok (.iaload, 1) := by decide +kernel
theorem dX3_mixRound_32 : decode cX3_mixRound 32 = .ok (.iand, 1) := by decide +kernel
theorem dX3_mixRound_33 : decode cX3_mixRound 33 = .ok (.ixor, 1) := by decide +kernel
theorem dX3_mixRound_34 : decode cX3_mixRound 34 = .ok (.istore 4, 2) := by decide +kernel
theorem dX3_mixRound_36 : decode cX3_mixRound 36 = .ok (.iload_n 2, 1) := by decide +kernel
theorem dX3_mixRound_37 : decode cX3_mixRound 37 = .ok (.aload_n 0, 1) := by decide +kernel
theorem dX3_mixRound_38 : decode cX3_mixRound 38 = .ok (.getfield 13, 3) := by decide +kernel
theorem dX3_mixRound_41 : decode cX3_mixRound 41 = .ok (.iconst 1, 1) := by decide +kernel
theorem dX3_mixRound_42 : decode cX3_mixRound 42 = .ok (.iaload, 1) := by decide +kernel
theorem dX3_mixRound_43 : decode cX3_mixRound 43 = .ok (.iand, 1) := by decide +kernel
theorem dX3_mixRound_44 : decode cX3_mixRound 44 = .ok (.iload_n 2, 1) := by decide +kernel
theorem dX3_mixRound_45 : decode cX3_mixRound 45 = .ok (.aload_n 0, 1) := by decide +kernel
theorem dX3_mixRound_46 : decode cX3_mixRound 46 = .ok (.getfield 13, 3) := by decide +kernel
theorem dX3_mixRound_49 : decode cX3_mixRound 49 = .ok (.iconst 2, 1) := by decide +kernel
theorem dX3_mixRound_50 : decode cX3_mixRound 50 = .ok (.iaload, 1) := by decide +kernel
theorem dX3_mixRound_51 : decode cX3_mixRound 51 = .ok (.iand, 1) := by decide +kernel
theorem dX3_mixRound_52 : decode cX3_mixRound 52 = .ok (.ixor, 1) := by decide +kernel
theorem dX3_mixRound_53 : decode cX3_mixRound 53 = .ok (.aload_n 0, 1) := by decide +kernel
theorem dX3_mixRound_54 : decode cX3_mixRound 54 = .ok (.getfield 13, 3) := by decide +kernel
theorem dX3_mixRound_57 : decode cX3_mixRound 57 = .ok (.iconst 1, 1) := by decide +kernel
theorem dX3_mixRound_58 : decode cX3_mixRound 58 = .ok (.iaload, 1) := by decide +kernel
theorem dX3_mixRound_59 : decode cX3_mixRound 59 = .ok (.aload_n 0, 1) := by decide +kernel
theorem dX3_mixRound_60 : decode cX3_mixRound 60 = .ok (.getfield 13, 3) := by decide +kernel
theorem dX3_mixRound_63 : decode cX3_mixRound 63 = .ok (.iconst 2, 1) := by decide +kernel
theorem dX3_mixRound_64 : decode cX3_mixRound 64 = .ok (.iaload, 1) := by decide +kernel
theorem dX3_mixRound_65 : decode cX3_mixRound 65 = .ok (.iand, 1) := by decide +kernel
theorem dX3_mixRound_66 : decode cX3_mixRound 66 = .ok (.ixor, 1) := by decide +kernel
theorem dX3_mixRound_67 : decode cX3_mixRound 67 = .ok (.istore 5, 2) := by decide +kernel
theorem dX3_mixRound_69 : decode cX3_mixRound 69 = .ok (.aload_n 0, 1) := by decide +kernel
theorem dX3_mixRound_70 : decode cX3_mixRound 70 = .ok (.getfield 13, 3) := by decide +kernel
theorem dX3_mixRound_73 : decode cX3_mixRound 73 = .ok (.bipush 7, 2) := by decide +kernel
theorem dX3_mixRound_75 : decode cX3_mixRound 75 = .ok (.iaload, 1) := by decide +kernel
theorem dX3_mixRound_76 : decode cX3_mixRound 76 = .ok (.iload_n 3, 1) := by decide +kernel
theorem dX3_mixRound_77 : decode cX3_mixRound 77 = .ok (.bipush 6, 2) := by decide +kernel
theorem dX3_mixRound_79 : decode cX3_mixRound 79 = .ok (.invokestatic 52, 3) := by decide +kernel
theorem dX3_mixRound_82 : decode cX3_mixRound 82 = .ok (.iload_n 3, 1) := by decide +kernel
theorem dX3_mixRound_83 : decode cX3_mixRound 83 = .ok (.bipush 11, 2) := by decide +kernel
theorem dX3_mixRound_85 : decode cX3_mixRound 85 = .ok (.invokestatic 52, 3) := by decide +kernel
theorem dX3_mixRound_88 : decode cX3_mixRound 88 = .ok (.ixor, 1) := by decide +kernel
theorem dX3_mixRound_89 : decode cX3_mixRound 89 = .ok (.iload_n 3, 1) := by decide +kernel
theorem dX3_mixRound_90 : decode cX3_mixRound 90 = .ok (.bipush 25, 2) := by decide +kernel
theorem dX3_mixRound_92 : decode cX3_mixRound 92 = .ok (.invokestatic 52, 3) := by decide +kernel
theorem dX3_mixRound_95 : decode cX3_mixRound 95 = .ok (.ixor, 1) := by decide +kernel
theorem dX3_mixRound_96 : decode cX3_mixRound 96 = .ok (.iadd, 1) := by decide +kernel
theorem dX3_mixRound_97 : decode cX3_mixRound 97 = .ok (.iload 4, 2) := by decide +kernel
theorem dX3_mixRound_99 : decode cX3_mixRound 99 = .ok (.iadd, 1) := by decide +kernel
theorem dX3_mixRound_100 : decode cX3_mixRound 100 = .ok (.iload_n 1, 1) := by decide +kernel
theorem dX3_mixRound_101 : decode cX3_mixRound 101 = .ok (.iadd, 1) := by decide +kernel
theorem dX3_mixRound_102 : decode cX3_mixRound 102 = .ok (.istore 6, 2) := by decide +kernel
theorem dX3_mixRound_104 : decode cX3_mixRound 104 = .ok (.iload_n 2, 1) := by decide +kernel
theorem dX3_mixRound_105 : decode cX3_mixRound 105 = .ok (.iconst 2, 1) := by decide +kernel
theorem dX3_mixRound_106 : decode cX3_mixRound 106 = .ok (.invokestatic 52, 3) := by decide +kernel
theorem dX3_mixRound_109 : decode cX3_mixRound 109 = .ok (.iload_n 2, 1) := by decide +kernel
theorem dX3_mixRound_110 : decode cX3_mixRound 110 = .ok (.bipush 13, 2) := by decide +kernel
theorem dX3_mixRound_112 : decode cX3_mixRound 112 = .ok (.invokestatic 52, 3) := by decide +kernel
theorem dX3_mixRound_115 : decode cX3_mixRound 115 = .ok (.ixor, 1) := by decide +kernel
theorem dX3_mixRound_116 : decode cX3_mixRound 116 = .ok (.iload_n 2, 1) := by decide +kernel
theorem dX3_mixRound_117 : decode cX3_mixRound 117 = .ok (.bipush 22, 2) := by decide +kernel
theorem dX3_mixRound_119 : decode cX3_mixRound 119 = .ok (.invokestatic 52, 3) := by decide +kernel
theorem dX3_mixRound_122 : decode cX3_mixRound 122 = .ok (.ixor, 1) := by decide +kernel
theorem dX3_mixRound_123 : decode cX3_mixRound 123 = .ok (.iload 5, 2) := by decide +kernel
theorem dX3_mixRound_125 : decode cX3_mixRound 125 = .ok (.iadd, 1) := by decide +kernel
theorem dX3_mixRound_126 : decode cX3_mixRound 126 = .ok (.istore 7, 2) := by decide +kernel
theorem dX3_mixRound_128 : decode cX3_mixRound 128 = .ok (.bipush 7, 2) := by decide +kernel
theorem dX3_mixRound_130 : decode cX3_mixRound 130 = .ok (.istore 8, 2) := by decide +kernel
theorem dX3_mixRound_132 : decode cX3_mixRound 132 = .ok (.iload 8, 2) := by decide +kernel
theorem dX3_mixRound_134 : decode cX3_mixRound 134 = .ok (.ifCond .le 25, 3) := by decide +kernel
theorem dX3_mixRound_137 : decode cX3_mixRound 137 = .ok (.aload_n 0, 1) := by decide +kernel
theorem dX3_mixRound_138 : decode cX3_mixRound 138 = .ok (.getfield 13, 3) := by decide +kernel
theorem dX3_mixRound_141 : decode cX3_mixRound 141 = .ok (.iload 8, 2) := by decide +kernel
theorem dX3_mixRound_143 : decode cX3_mixRound 143 = .ok (.aload_n 0, 1) := by decide +kernel
theorem dX3_mixRound_144 : decode cX3_mixRound 144 = .ok (.getfield 13, 3) := by decide +kernel
theorem dX3_mixRound_147 : decode cX3_mixRound 147 = .ok (.iload 8, 2) := by decide +kernel
theorem dX3_mixRound_149 : decode cX3_mixRound 149 = .ok (.iconst 1, 1) := by decide +kernel
theorem dX3_mixRound_150 : decode cX3_mixRound 150 = .ok (.isub, 1) := by decide +kernel
theorem dX3_mixRound_151 : decode cX3_mixRound 151 = .ok (.iaload, 1) := by decide +kernel
theorem dX3_mixRound_152 : decode cX3_mixRound 152 = .ok (.iastore, 1) := by decide +kernel
theorem dX3_mixRound_153 : decode cX3_mixRound 153 = .ok (.iinc 8 (-1), 3) := by decide +kernel
theorem dX3_mixRound_156 : decode cX3_mixRound 156 = .ok (.goto (-24), 3) := by decide +kernel
theorem dX3_mixRound_159 : decode cX3_mixRound 159 = .ok (.aload_n 0, 1) := by decide +kernel
theorem dX3_mixRound_160 : decode cX3_mixRound 160 = .ok (.getfield 13, 3) := by decide +kernel
theorem dX3_mixRound_163 : decode cX3_mixRound 163 = .ok (.iconst 4, 1) := by decide +kernel
theorem dX3_mixRound_164 : decode cX3_mixRound 164 = .ok (.dup2, 1) := by decide +kernel
theorem dX3_mixRound_165 : decode cX3_mixRound 165 = .ok (.iaload, 1) := by decide +kernel
theorem dX3_mixRound_166 : decode cX3_mixRound 166 = .ok (.iload 6, 2) := by decide +kernel
theorem dX3_mixRound_168 : decode cX3_mixRound 168 = .ok (.iadd, 1) := by decide +kernel
theorem dX3_mixRound_169 : decode cX3_mixRound 169 = .ok (.iastore, 1) := by decide +kernel
theorem dX3_mixRound_170 : decode cX3_mixRound 170 = .ok (.aload_n 0, 1) := by decide +kernel
theorem dX3_mixRound_171 : decode cX3_mixRound 171 = .ok (.getfield 13, 3) := by decide +kernel
theorem dX3_mixRound_174 : decode cX3_mixRound 174 = .ok (.iconst 0, 1) := by decide +kernel
theorem dX3_mixRound_175 : decode cX3_mixRound 175 = .ok (.iload 6, 2) := by decide +kernel
theorem dX3_mixRound_177 : decode cX3_mixRound 177 = .ok (.iload 7, 2) := by decide +kernel
theorem dX3_mixRound_179 : decode cX3_mixRound 179 = .ok (.iadd, 1) := by decide +kernel
theorem dX3_mixRound_180 : decode cX3_mixRound 180 = .ok (.iastore, 1) := by decide +kernel
theorem dX3_mixRound_181 : decode cX3_mixRound 181 = .ok (.return_, 1) := by decide +kernel
theorem hyX3_mixRound : yX3_mixRound.cls ≠ "java/lang/invoke/MethodHandle" ∧ yX3_mixRound.cls ≠ "java/lang/invoke/VarHandle" ∧ (parseMethodDescriptor yX3_mixRound.desc).map (fun d => d.parameters.length) = some 1 := by decide +kernel
abbrev J_X3_mixRound_132 (E : gx_E) (v0 : Nat) (v1 : Int32) (v2 : Int32) (v3 : Int32) (v4 : Int32) (v5 : Int32) (v6 : Int32) (v7 : Int32) (v8 : Int32) (u : gx_S) : Prop := gx_Wc E 9 132 [(0, .ref (ex_ad E v0)), (1, .int v1), (2, .int v2), (3, .int v3), (4, .int v4), (5, .int v5), (6, .int v6), (7, .int v7), (8, .int v8)] [] u
set_option maxHeartbeats 4000000 in
set_option maxRecDepth 100000 in
theorem w_X3_mixRound_0 {E : gx_E} (X : gx_X E cX3_mixRound 9 RX3 none) (hd : 1 ≤ ex_d E) {post : gx_S → Prop} (hQ : ex_Q E = va_Qv post (gx_B (ex_Z E)) (gx_A (ex_Z E))) {u : gx_S} {v0 : Nat} {v1 : Int32} (h : (gx_isO v0 3 ∧ (gx_isR (gx_r u v0 1) .int ∧ vp_in (0 : Int32) (gx_len (gx_r u v0 1)) ∧ (∀ x4 : Int32, x4 = (gx_a u (gx_r u v0 1) (0 : Int32).toNatClampNeg) → (vp_in (4 : Int32) (gx_len (gx_r u v0 1)) ∧ (∀ x6 : Int32, x6 = (gx_a u (gx_r u v0 1) (4 : Int32).toNatClampNeg) → (vp_in (5 : Int32) (gx_len (gx_r u v0 1)) ∧ (vp_in (6 : Int32) (gx_len (gx_r u v0 1)) ∧ (∀ x9 : Int32, x9 = ((x6 &&& (gx_a u (gx_r u v0 1) (5 : Int32).toNatClampNeg)) ^^^ ((x6 ^^^ (-1 : Int32)) &&& (gx_a u (gx_r u v0 1) (6 : Int32).toNatClampNeg))) → (vp_in (1 : Int32) (gx_len (gx_r u v0 1)) ∧ (vp_in (2 : Int32) (gx_len (gx_r u v0 1)) ∧ (vp_in (1 : Int32) (gx_len (gx_r u v0 1)) ∧ (vp_in (2 : Int32) (gx_len (gx_r u v0 1)) ∧ (∀ x14 : Int32, x14 = (((x4 &&& (gx_a u (gx_r u v0 1) (1 : Int32).toNatClampNeg)) ^^^ (x4 &&& (gx_a u (gx_r u v0 1) (2 : Int32).toNatClampNeg))) ^^^ ((gx_a u (gx_r u v0 1) (1 : Int32).toNatClampNeg) &&& (gx_a u (gx_r u v0 1) (2 : Int32).toNatClampNeg))) → (vp_in (7 : Int32) (gx_len (gx_r u v0 1)) ∧ (S_X3_turned u x6 (6 : Int32) (fun (r17 : Int32) (u16 : gx_S) => (S_X3_turned u16 x6 (11 : Int32) (fun (r19 : Int32) (u18 : gx_S) => (S_X3_turned u18 x6 (25 : Int32) (fun (r21 : Int32) (u20 : gx_S) => (∀ x22 : Int32, x22 = ((((gx_a u (gx_r u v0 1) (7 : Int32).toNatClampNeg) + ((r17 ^^^ r19) ^^^ r21)) + x9) + v1) → (S_X3_turned u20 x4 (2 : Int32) (fun (r24 : Int32) (u23 : gx_S) => (S_X3_turned u23 x4 (13 : Int32) (fun (r26 : Int32) (u25 : gx_S) => (S_X3_turned u25 x4 (22 : Int32) (fun (r28 : Int32) (u27 : gx_S) => (∀ x29 : Int32, x29 = (((r24 ^^^ r26) ^^^ r28) + x14) → J_X3_mixRound_132 E v0 v1 x4 x6 x9 x14 x22 x29 (7 : Int32) u27))))))))))))))))))))))))))))) : gx_Wc E 9 0 [(0, .ref (ex_ad E v0)), (1, .int v1)] [] u := by
  refine gx_aload_n X (j := 0) dX3_mixRound_0 rfl rfl ?_
  obtain ⟨k1, h⟩ := h
  refine gx_get X k1 rfl iwX3 1 (by decide) mw_76 (v := .ref (ex_ad E (gx_r u v0 1))) rfl dX3_mixRound_1 ?_
  refine gx_iconst X (v := 0) dX3_mixRound_4 (by decide) ?_
  obtain ⟨k2, h⟩ := h
  obtain ⟨k3, h⟩ := h
  refine gx_iald X k2 k3 dX3_mixRound_5 ?_
  refine gx_nami (fun x4 ex4 => ?_)
  replace h := h x4 ex4
  refine gx_istore_n X (lv' := [(2, .int x4), (0, .ref (ex_ad E v0)), (1, .int v1)]) dX3_mixRound_6 rfl (by decide) rfl ?_
  refine gx_aload_n X (j := 1) dX3_mixRound_7 rfl rfl ?_
  refine gx_get X k1 rfl iwX3 1 (by decide) mw_76 (v := .ref (ex_ad E (gx_r u v0 1))) rfl dX3_mixRound_8 ?_
  refine gx_iconst X (v := 4) dX3_mixRound_11 (by decide) ?_
  obtain ⟨k5, h⟩ := h
  refine gx_iald X k2 k5 dX3_mixRound_12 ?_
  refine gx_nami (fun x6 ex6 => ?_)
  replace h := h x6 ex6
  refine gx_istore_n X (lv' := [(3, .int x6), (2, .int x4), (0, .ref (ex_ad E v0)), (1, .int v1)]) dX3_mixRound_13 rfl (by decide) rfl ?_
  refine gx_iload_n X (j := 0) dX3_mixRound_14 rfl rfl ?_
  refine gx_aload_n X (j := 2) dX3_mixRound_15 rfl rfl ?_
  refine gx_get X k1 rfl iwX3 1 (by decide) mw_76 (v := .ref (ex_ad E (gx_r u v0 1))) rfl dX3_mixRound_16 ?_
  refine gx_iconst X (v := 5) dX3_mixRound_19 (by decide) ?_
  obtain ⟨k7, h⟩ := h
  refine gx_iald X k2 k7 dX3_mixRound_20 ?_
  refine gx_iand X dX3_mixRound_21 ?_
  refine gx_iload_n X (j := 0) dX3_mixRound_22 rfl rfl ?_
  refine gx_iconst X (v := -1) dX3_mixRound_23 (by decide) ?_
  refine gx_ixor X dX3_mixRound_24 ?_
  refine gx_aload_n X (j := 2) dX3_mixRound_25 rfl rfl ?_
  refine gx_get X k1 rfl iwX3 1 (by decide) mw_76 (v := .ref (ex_ad E (gx_r u v0 1))) rfl dX3_mixRound_26 ?_
  refine gx_bipush X (v := 6) dX3_mixRound_29 (by decide) ?_
  obtain ⟨k8, h⟩ := h
  refine gx_iald X k2 k8 dX3_mixRound_31 ?_
  refine gx_iand X dX3_mixRound_32 ?_
  refine gx_ixor X dX3_mixRound_33 ?_
  refine gx_nami (fun x9 ex9 => ?_)
  replace h := h x9 ex9
  refine gx_istore X (lv' := [(4, .int x9), (3, .int x6), (2, .int x4), (0, .ref (ex_ad E v0)), (1, .int v1)]) dX3_mixRound_34 (by decide) rfl ?_
  refine gx_iload_n X (j := 2) dX3_mixRound_36 rfl rfl ?_
  refine gx_aload_n X (j := 3) dX3_mixRound_37 rfl rfl ?_
  refine gx_get X k1 rfl iwX3 1 (by decide) mw_76 (v := .ref (ex_ad E (gx_r u v0 1))) rfl dX3_mixRound_38 ?_
  refine gx_iconst X (v := 1) dX3_mixRound_41 (by decide) ?_
  obtain ⟨k10, h⟩ := h
  refine gx_iald X k2 k10 dX3_mixRound_42 ?_
  refine gx_iand X dX3_mixRound_43 ?_
  refine gx_iload_n X (j := 2) dX3_mixRound_44 rfl rfl ?_
  refine gx_aload_n X (j := 3) dX3_mixRound_45 rfl rfl ?_
  refine gx_get X k1 rfl iwX3 1 (by decide) mw_76 (v := .ref (ex_ad E (gx_r u v0 1))) rfl dX3_mixRound_46 ?_
  refine gx_iconst X (v := 2) dX3_mixRound_49 (by decide) ?_
  obtain ⟨k11, h⟩ := h
  refine gx_iald X k2 k11 dX3_mixRound_50 ?_
  refine gx_iand X dX3_mixRound_51 ?_
  refine gx_ixor X dX3_mixRound_52 ?_
  refine gx_aload_n X (j := 3) dX3_mixRound_53 rfl rfl ?_
  refine gx_get X k1 rfl iwX3 1 (by decide) mw_76 (v := .ref (ex_ad E (gx_r u v0 1))) rfl dX3_mixRound_54 ?_
  refine gx_iconst X (v := 1) dX3_mixRound_57 (by decide) ?_
  obtain ⟨k12, h⟩ := h
  refine gx_iald X k2 k12 dX3_mixRound_58 ?_
  refine gx_aload_n X (j := 3) dX3_mixRound_59 rfl rfl ?_
  refine gx_get X k1 rfl iwX3 1 (by decide) mw_76 (v := .ref (ex_ad E (gx_r u v0 1))) rfl dX3_mixRound_60 ?_
  refine gx_iconst X (v := 2) dX3_mixRound_63 (by decide) ?_
  obtain ⟨k13, h⟩ := h
  refine gx_iald X k2 k13 dX3_mixRound_64 ?_
  refine gx_iand X dX3_mixRound_65 ?_
  refine gx_ixor X dX3_mixRound_66 ?_
  refine gx_nami (fun x14 ex14 => ?_)
  replace h := h x14 ex14
  refine gx_istore X (lv' := [(5, .int x14), (4, .int x9), (3, .int x6), (2, .int x4), (0, .ref (ex_ad E v0)), (1, .int v1)]) dX3_mixRound_67 (by decide) rfl ?_
  refine gx_aload_n X (j := 4) dX3_mixRound_69 rfl rfl ?_
  refine gx_get X k1 rfl iwX3 1 (by decide) mw_76 (v := .ref (ex_ad E (gx_r u v0 1))) rfl dX3_mixRound_70 ?_
  refine gx_bipush X (v := 7) dX3_mixRound_73 (by decide) ?_
  obtain ⟨k15, h⟩ := h
  refine gx_iald X k2 k15 dX3_mixRound_75 ?_
  refine gx_iload_n X (j := 2) dX3_mixRound_76 rfl rfl ?_
  refine gx_bipush X (v := 6) dX3_mixRound_77 (by decide) ?_
  refine gx_ki (gx_rS X (c_X3_turned h) (Nat.le_trans (by decide) hd) (Nat.le_trans (by decide) (Nat.mul_le_mul_left 40 hd)) mw_351 mw_352 mw_5 mw_353 hyX3_turned (As := [.int x6, .int (6 : Int32)]) (rest := [.int (gx_a u (gx_r u v0 1) (7 : Int32).toNatClampNeg)]) rfl rfl (Nat.le_of_ble_eq_true rfl) dX3_mixRound_79) (fun r17 u16 h => ?_)
  refine gx_iload_n X (j := 2) dX3_mixRound_82 rfl rfl ?_
  refine gx_bipush X (v := 11) dX3_mixRound_83 (by decide) ?_
  refine gx_ki (gx_rS X (c_X3_turned h) (Nat.le_trans (by decide) hd) (Nat.le_trans (by decide) (Nat.mul_le_mul_left 40 hd)) mw_351 mw_352 mw_5 mw_353 hyX3_turned (As := [.int x6, .int (11 : Int32)]) (rest := [.int r17, .int (gx_a u (gx_r u v0 1) (7 : Int32).toNatClampNeg)]) rfl rfl (Nat.le_of_ble_eq_true rfl) dX3_mixRound_85) (fun r19 u18 h => ?_)
  refine gx_ixor X dX3_mixRound_88 ?_
  refine gx_iload_n X (j := 2) dX3_mixRound_89 rfl rfl ?_
  refine gx_bipush X (v := 25) dX3_mixRound_90 (by decide) ?_
  refine gx_ki (gx_rS X (c_X3_turned h) (Nat.le_trans (by decide) hd) (Nat.le_trans (by decide) (Nat.mul_le_mul_left 40 hd)) mw_351 mw_352 mw_5 mw_353 hyX3_turned (As := [.int x6, .int (25 : Int32)]) (rest := [.int (r17 ^^^ r19), .int (gx_a u (gx_r u v0 1) (7 : Int32).toNatClampNeg)]) rfl rfl (Nat.le_of_ble_eq_true rfl) dX3_mixRound_92) (fun r21 u20 h => ?_)
  refine gx_ixor X dX3_mixRound_95 ?_
  refine gx_iadd X dX3_mixRound_96 ?_
  refine gx_iload X (j := 1) dX3_mixRound_97 rfl ?_
  refine gx_iadd X dX3_mixRound_99 ?_
  refine gx_iload_n X (j := 5) dX3_mixRound_100 rfl rfl ?_
  refine gx_iadd X dX3_mixRound_101 ?_
  refine gx_nami (fun x22 ex22 => ?_)
  replace h := h x22 ex22
  refine gx_istore X (lv' := [(6, .int x22), (5, .int x14), (4, .int x9), (3, .int x6), (2, .int x4), (0, .ref (ex_ad E v0)), (1, .int v1)]) dX3_mixRound_102 (by decide) rfl ?_
  refine gx_iload_n X (j := 4) dX3_mixRound_104 rfl rfl ?_
  refine gx_iconst X (v := 2) dX3_mixRound_105 (by decide) ?_
  refine gx_ki (gx_rS X (c_X3_turned h) (Nat.le_trans (by decide) hd) (Nat.le_trans (by decide) (Nat.mul_le_mul_left 40 hd)) mw_351 mw_352 mw_5 mw_353 hyX3_turned (As := [.int x4, .int (2 : Int32)]) (rest := []) rfl rfl (Nat.le_of_ble_eq_true rfl) dX3_mixRound_106) (fun r24 u23 h => ?_)
  refine gx_iload_n X (j := 4) dX3_mixRound_109 rfl rfl ?_
  refine gx_bipush X (v := 13) dX3_mixRound_110 (by decide) ?_
  refine gx_ki (gx_rS X (c_X3_turned h) (Nat.le_trans (by decide) hd) (Nat.le_trans (by decide) (Nat.mul_le_mul_left 40 hd)) mw_351 mw_352 mw_5 mw_353 hyX3_turned (As := [.int x4, .int (13 : Int32)]) (rest := [.int r24]) rfl rfl (Nat.le_of_ble_eq_true rfl) dX3_mixRound_112) (fun r26 u25 h => ?_)
  refine gx_ixor X dX3_mixRound_115 ?_
  refine gx_iload_n X (j := 4) dX3_mixRound_116 rfl rfl ?_
  refine gx_bipush X (v := 22) dX3_mixRound_117 (by decide) ?_
  refine gx_ki (gx_rS X (c_X3_turned h) (Nat.le_trans (by decide) hd) (Nat.le_trans (by decide) (Nat.mul_le_mul_left 40 hd)) mw_351 mw_352 mw_5 mw_353 hyX3_turned (As := [.int x4, .int (22 : Int32)]) (rest := [.int (r24 ^^^ r26)]) rfl rfl (Nat.le_of_ble_eq_true rfl) dX3_mixRound_119) (fun r28 u27 h => ?_)
  refine gx_ixor X dX3_mixRound_122 ?_
  refine gx_iload X (j := 1) dX3_mixRound_123 rfl ?_
  refine gx_iadd X dX3_mixRound_125 ?_
  refine gx_nami (fun x29 ex29 => ?_)
  replace h := h x29 ex29
  refine gx_istore X (lv' := [(7, .int x29), (6, .int x22), (5, .int x14), (4, .int x9), (3, .int x6), (2, .int x4), (0, .ref (ex_ad E v0)), (1, .int v1)]) dX3_mixRound_126 (by decide) rfl ?_
  refine gx_bipush X (v := 7) dX3_mixRound_128 (by decide) ?_
  refine gx_istore X (lv' := [(8, .int (7 : Int32)), (7, .int x29), (6, .int x22), (5, .int x14), (4, .int x9), (3, .int x6), (2, .int x4), (0, .ref (ex_ad E v0)), (1, .int v1)]) dX3_mixRound_130 (by decide) rfl ?_
  exact gx_sub [7, 8, 6, 5, 4, 3, 2, 1, 0] rfl h
set_option maxHeartbeats 4000000 in
set_option maxRecDepth 100000 in
theorem w_X3_mixRound_132 {E : gx_E} (X : gx_X E cX3_mixRound 9 RX3 none) (hd : 1 ≤ ex_d E) {post : gx_S → Prop} (hQ : ex_Q E = va_Qv post (gx_B (ex_Z E)) (gx_A (ex_Z E))) {u : gx_S} {v0 : Nat} {v1 : Int32} {v2 : Int32} {v3 : Int32} {v4 : Int32} {v5 : Int32} {v6 : Int32} {v7 : Int32} {v8 : Int32} (h : ((v8 ≤ 0 → (gx_isO v0 3 ∧ (gx_isR (gx_r u v0 1) .int ∧ vp_in (4 : Int32) (gx_len (gx_r u v0 1)) ∧ (gx_isA (gx_r u v0 1) .int ∧ vp_in (4 : Int32) (gx_len (gx_r u v0 1)) ∧ ∀ u6 : gx_S, u6 = gx_pa u (gx_r u v0 1) (upd (gx_a u (gx_r u v0 1)) (4 : Int32).toNatClampNeg ((gx_a u (gx_r u v0 1) (4 : Int32).toNatClampNeg) + v6)) → (gx_isA (gx_r u6 v0 1) .int ∧ vp_in (0 : Int32) (gx_len (gx_r u6 v0 1)) ∧ ∀ u9 : gx_S, u9 = gx_pa u6 (gx_r u6 v0 1) (upd (gx_a u6 (gx_r u6 v0 1)) (0 : Int32).toNatClampNeg (v6 + v7)) → post u9))))) ∧ (¬ v8 ≤ 0 → (gx_isO v0 3 ∧ (gx_isR (gx_r u v0 1) .int ∧ vp_in (v8 - (1 : Int32)) (gx_len (gx_r u v0 1)) ∧ (gx_isA (gx_r u v0 1) .int ∧ vp_in v8 (gx_len (gx_r u v0 1)) ∧ ∀ u15 : gx_S, u15 = gx_pa u (gx_r u v0 1) (upd (gx_a u (gx_r u v0 1)) v8.toNatClampNeg (gx_a u (gx_r u v0 1) (v8 - (1 : Int32)).toNatClampNeg)) → (∀ x16 : Int32, x16 = v8 + (-1) → J_X3_mixRound_132 E v0 v1 v2 v3 v4 v5 v6 v7 x16 u15))))))) : gx_Wc E 9 132 [(0, .ref (ex_ad E v0)), (1, .int v1), (2, .int v2), (3, .int v3), (4, .int v4), (5, .int v5), (6, .int v6), (7, .int v7), (8, .int v8)] [] u := by
  refine gx_iload X (j := 8) dX3_mixRound_132 rfl ?_
  refine gx_if_le X (tgt := 159) dX3_mixRound_134 (by decide) (fun c17 => ?_) (fun c17 => ?_)
  · replace h := h.1 c17
    refine gx_aload_n X (j := 0) dX3_mixRound_159 rfl rfl ?_
    obtain ⟨k1, h⟩ := h
    refine gx_get X k1 rfl iwX3 1 (by decide) mw_76 (v := .ref (ex_ad E (gx_r u v0 1))) rfl dX3_mixRound_160 ?_
    refine gx_iconst X (v := 4) dX3_mixRound_163 (by decide) ?_
    refine gx_dup2_11 X dX3_mixRound_164 rfl rfl ?_
    obtain ⟨k2, h⟩ := h
    obtain ⟨k3, h⟩ := h
    refine gx_iald X k2 k3 dX3_mixRound_165 ?_
    refine gx_iload X (j := 6) dX3_mixRound_166 rfl ?_
    refine gx_iadd X dX3_mixRound_168 ?_
    obtain ⟨k4, h⟩ := h
    obtain ⟨k5, h⟩ := h
    refine gx_iast X k4 k5 dX3_mixRound_169 ?_
    refine gx_nams (fun u6 eu6 => ?_)
    replace h := h u6 eu6
    refine gx_aload_n X (j := 0) dX3_mixRound_170 rfl rfl ?_
    refine gx_get X k1 rfl iwX3 1 (by decide) mw_76 (v := .ref (ex_ad E (gx_r u6 v0 1))) rfl dX3_mixRound_171 ?_
    refine gx_iconst X (v := 0) dX3_mixRound_174 (by decide) ?_
    refine gx_iload X (j := 6) dX3_mixRound_175 rfl ?_
    refine gx_iload X (j := 7) dX3_mixRound_177 rfl ?_
    refine gx_iadd X dX3_mixRound_179 ?_
    obtain ⟨k7, h⟩ := h
    obtain ⟨k8, h⟩ := h
    refine gx_iast X k7 k8 dX3_mixRound_180 ?_
    refine gx_nams (fun u9 eu9 => ?_)
    replace h := h u9 eu9
    exact gx_vret X hQ h dX3_mixRound_181
  · replace h := h.2 c17
    refine gx_aload_n X (j := 0) dX3_mixRound_137 rfl rfl ?_
    obtain ⟨k10, h⟩ := h
    refine gx_get X k10 rfl iwX3 1 (by decide) mw_76 (v := .ref (ex_ad E (gx_r u v0 1))) rfl dX3_mixRound_138 ?_
    refine gx_iload X (j := 8) dX3_mixRound_141 rfl ?_
    refine gx_aload_n X (j := 0) dX3_mixRound_143 rfl rfl ?_
    refine gx_get X k10 rfl iwX3 1 (by decide) mw_76 (v := .ref (ex_ad E (gx_r u v0 1))) rfl dX3_mixRound_144 ?_
    refine gx_iload X (j := 8) dX3_mixRound_147 rfl ?_
    refine gx_iconst X (v := 1) dX3_mixRound_149 (by decide) ?_
    refine gx_isub X dX3_mixRound_150 ?_
    obtain ⟨k11, h⟩ := h
    obtain ⟨k12, h⟩ := h
    refine gx_iald X k11 k12 dX3_mixRound_151 ?_
    obtain ⟨k13, h⟩ := h
    obtain ⟨k14, h⟩ := h
    refine gx_iast X k13 k14 dX3_mixRound_152 ?_
    refine gx_nams (fun u15 eu15 => ?_)
    replace h := h u15 eu15
    obtain ⟨x16, ex16⟩ : ∃ y : Int32, y = v8 + (-1) := ⟨_, rfl⟩
    replace h := h x16 ex16
    refine gx_iinc X (v := x16) (lv' := [(8, .int x16), (0, .ref (ex_ad E v0)), (1, .int v1), (2, .int v2), (3, .int v3), (4, .int v4), (5, .int v5), (6, .int v6), (7, .int v7)]) dX3_mixRound_153 (j := 8) rfl (by rw [ex16]; rfl) (by decide) rfl ?_
    refine gx_goto X (tgt := 132) dX3_mixRound_156 (by decide) ?_
    exact gx_sub [1, 2, 3, 4, 5, 6, 7, 8, 0] rfl h
/-- all is as before but for what some arrays hold -/
def exA (A : List Nat) (u u' : gx_S) : Prop := u'.1 = u.1 ∧ u'.2.1 = u.2.1 ∧ u'.2.2.1 = u.2.2.1 ∧ ∀ a, a ∉ A → gx_a u' a = gx_a u a
theorem exA_rf (A : List Nat) (u : gx_S) : exA A u u := ⟨rfl, rfl, rfl, fun _ _ => rfl⟩
theorem exA_pa {A : List Nat} {a : Nat} (u : gx_S) (f : Nat → Int32) (h : a ∈ A) : exA A u (gx_pa u a f) := ⟨rfl, rfl, rfl, fun b hb => by rw [gx_a_pa, if_neg (fun e => hb (by rw [e]; exact h))]⟩
theorem exA_tr {A : List Nat} {u v w : gx_S} (h : exA A u v) (h2 : exA A v w) : exA A u w := ⟨h2.1.trans h.1, h2.2.1.trans h.2.1, h2.2.2.1.trans h.2.2.1, fun a ha => (h2.2.2.2 a ha).trans (h.2.2.2 a ha)⟩
theorem exA_wk {A B : List Nat} {u v : gx_S} (h : exA A u v) (hs : ∀ a, a ∈ A → a ∈ B) : exA B u v := ⟨h.1, h.2.1, h.2.2.1, fun a ha => h.2.2.2 a (fun e => ha (hs a e))⟩
theorem exA_i {A : List Nat} {u v : gx_S} (h : exA A u v) (o k : Nat) : gx_i v o k = gx_i u o k := congrFun (congrFun h.1 o) k
theorem exA_l {A : List Nat} {u v : gx_S} (h : exA A u v) (o k : Nat) : gx_l v o k = gx_l u o k := congrFun (congrFun h.2.1 o) k
theorem exA_r {A : List Nat} {u v : gx_S} (h : exA A u v) (o k : Nat) : gx_r v o k = gx_r u o k := congrFun (congrFun h.2.2.1 o) k
theorem exA_cfix {A : List Nat} {u v : gx_S} (h : exA A u v) (hf : cfix u) : cfix v := fun o k ho => (exA_r h o k).trans (hf o k ho)
theorem exA_byL {A : List Nat} {u v : gx_S} (h : exA A u v) {o : Nat} {L : List Nat} (hB : byL u o L) (ha : gx_r u o 0 ∉ A) : byL v o L := by
  obtain ⟨h1, h2, h3, h4, h5, h6⟩ := hB
  refine ⟨h1, ?_, ?_, ?_, h5, ?_⟩
  · rw [exA_r h]; exact h2
  · rw [exA_r h]; exact h3
  · rw [exA_i h]; exact h4
  · rw [exA_r h, h.2.2.2 _ ha]; exact h6
theorem nI_or {a b : Nat} (ha : a < 2 ^ 32) (hb : b < 2 ^ 32) : nI a ||| nI b = nI (a ||| b) := by
  apply Int32.toBitVec_inj.mp
  apply BitVec.eq_of_toNat_eq
  show ((nI a).toBitVec ||| (nI b).toBitVec).toNat = _
  rw [BitVec.toNat_or, pk_tn ha, pk_tn hb, pk_tn (Nat.or_lt_two_pow ha hb)]
theorem shl8_or {A b : Nat} (hA : A < 2 ^ 24) (hb : b < 256) : (nI A <<< ((8 : Int32) &&& 31)) ||| nI b = nI (A * 256 + b) := by
  rw [pk_shlN ((8 : Int32) &&& 31) 8 (by decide) (by omega), nI_or (by omega) (by omega), show A * 2 ^ 8 = 2 ^ 8 * A by omega, ← Nat.two_pow_add_eq_or_of_lt (by omega)]
-- the padded row
def pb (T : List Nat) (k : Nat) : Nat := if k < T.length then ch T k else if k = T.length then 128 else 0
theorem pb_lt {T : List Nat} (h : okL T) (k : Nat) : pb T k < 256 := by
  unfold pb
  split
  · exact ch_lt h (by assumption)
  · split <;> omega
theorem i_X3_paddedByte {u : gx_S} {v0 k : Nat} {T : List Nat} {post : Int32 → gx_S → Prop} (hT : byL u v0 T) (hk : k < 2 ^ 30) (h : post (nI (pb T k)) u) : S_X3_paddedByte u v0 (nI k) post := by
  have hT2 := hT.2.2.2.2.1
  unfold pb at h
  refine ⟨hT.1, i_X0_size hT ⟨fun q => i_X0_size hT ⟨fun q2 => ?_, fun q2 => ?_⟩, fun q => i_X0_at hT (by omega) ?_⟩⟩
  · rw [nI_leI (by omega) (by omega)] at q
    rw [if_neg (by omega), if_neg (fun e => q2 (by rw [e]))] at h; exact h
  · rw [nI_leI (by omega) (by omega)] at q
    rw [if_neg (by omega), if_pos ((nI_eq (by omega) (by omega)).mp q2)] at h; exact h
  · rw [nI_leI (by omega) (by omega)] at q
    rw [if_pos (by omega)] at h
    rw [cI_lo (ch_lt hT.2.2.2.2.2.1 (by omega))]; exact h
def pwd (T : List Nat) (i : Nat) : Int32 := nI (((pb T i * 256 + pb T (i + 1)) * 256 + pb T (i + 2)) * 256 + pb T (i + 3))
def S_X3_paddedWord (u : gx_S) (v0 : Nat) (v1 : Int32) (post : Int32 → gx_S → Prop) : Prop := ∃ (T : List Nat) (i : Nat), byL u v0 T ∧ i < 2 ^ 28 ∧ v1 = nI i ∧ post (pwd T i) u
theorem st_X3_paddedWord {E : gx_E} (X : gx_X E cX3_paddedWord 4 RX3 (some .int)) (hd : 2 ≤ ex_d E) {post : Int32 → gx_S → Prop} (hQ : ex_Q E = va_Qi post (gx_B (ex_Z E)) (gx_A (ex_Z E))) {u : gx_S} {v0 i j A : Nat} {T : List Nat} (hT : byL u v0 T) (hi : i < 2 ^ 28) (hj : j < i + 4) (hA : A < 2 ^ 24) (h : J_X3_paddedWord_4 E v0 (nI i) (nI (A * 256 + pb T j)) (nI (j + 1)) u) : J_X3_paddedWord_4 E v0 (nI i) (nI A) (nI j) u := by
  refine w_X3_paddedWord_4 X hd hQ ?_
  rw [show (4 : Int32) = nI 4 from rfl, nI_add]
  refine ⟨fun q => absurd q (nI_ge (by omega) (by omega)), fun _ => i_X3_paddedByte hT (by omega) ?_⟩
  rintro x3 rfl x4 rfl
  rw [shl8_or hA (pb_lt hT.2.2.2.2.2.1 j), nI_1]
  exact h
theorem w_X3_paddedWord {E : gx_E} (X : gx_X E cX3_paddedWord 4 RX3 (some .int)) (hd : 2 ≤ ex_d E) {post : Int32 → gx_S → Prop} (hQ : ex_Q E = va_Qi post (gx_B (ex_Z E)) (gx_A (ex_Z E))) {u : gx_S} {v0 : Nat} {v1 : Int32} (h : S_X3_paddedWord u v0 v1 post) : gx_Wc E 4 0 [(0, .ref (ex_ad E v0)), (1, .int v1)] [] u := by
  obtain ⟨T, i, hT, hi, rfl, h⟩ := h
  have b := pb_lt hT.2.2.2.2.2.1
  have b0 := b i
  have b1 := b (i + 1)
  have b2 := b (i + 1 + 1)
  have b3 := b (i + 1 + 1 + 1)
  refine w_X3_paddedWord_0 X hd hQ ?_
  refine st_X3_paddedWord X hd hQ (A := 0) hT hi (by omega) (by omega) ?_
  refine st_X3_paddedWord X hd hQ hT hi (by omega) (by omega) ?_
  refine st_X3_paddedWord X hd hQ hT hi (by omega) (by omega) ?_
  refine st_X3_paddedWord X hd hQ hT hi (by omega) (by omega) ?_
  refine w_X3_paddedWord_4 X hd hQ ?_
  rw [show (4 : Int32) = nI 4 from rfl, nI_add]
  refine ⟨fun _ => ?_, fun q => absurd (nI_le (by omega) (by omega)) q⟩
  unfold pwd at h
  rw [show ((((0 * 256 + pb T i) * 256 + pb T (i + 1)) * 256 + pb T (i + 1 + 1)) * 256 + pb T (i + 1 + 1 + 1)) = ((pb T i * 256 + pb T (i + 1)) * 256 + pb T (i + 2)) * 256 + pb T (i + 3) by rw [Nat.zero_mul, Nat.zero_add]]
  exact h
theorem c_X3_paddedWord {l : Launch} {Z : gx_Z} {u : gx_S} {v0 : Nat} {v1 : Int32} {post : Int32 → gx_S → Prop} (h : S_X3_paddedWord u v0 v1 post) : Met l yX3_paddedWord (Cond.code yX3_paddedWord cX3_paddedWord 4 (some .int) :: gx_TB) (gx_rm 2) (gx_Pre Z u [.ref (Z.2.1 v0), .int v1]) (va_Qi post (gx_B Z) (gx_A Z)) 0 0 (gx_A Z) := by
  refine gx_met (by decide +kernel) (Nat.le_of_ble_eq_true rfl) ?_
  intro E X hZ hQ hD hL
  subst hZ
  exact w_X3_paddedWord X (Nat.le_of_eq hD.symm) hQ h
-- a round
def tr (x k : Int32) : Int32 := ((x.toUInt32 >>> (k.toUInt32 &&& Int32.toUInt32 31)).toInt32) ||| (x <<< (((32 : Int32) - k) &&& 31))
def fi1 (s : Nat → Int32) (w : Int32) : Int32 := s 7 + ((tr (s 4) 6 ^^^ tr (s 4) 11) ^^^ tr (s 4) 25) + ((s 4 &&& s 5) ^^^ ((s 4 ^^^ (-1 : Int32)) &&& s 6)) + w
def fi2 (s : Nat → Int32) : Int32 := ((tr (s 0) 2 ^^^ tr (s 0) 13) ^^^ tr (s 0) 22) + (((s 0 &&& s 1) ^^^ (s 0 &&& s 2)) ^^^ (s 1 &&& s 2))
def rnd (s : Nat → Int32) (w : Int32) (j : Nat) : Int32 := if j = 0 then fi1 s w + fi2 s else if j = 4 then s 3 + fi1 s w else s (j - 1)
theorem rnd_cg {s t : Nat → Int32} (h : ∀ j, j < 8 → s j = t j) (w : Int32) : ∀ j, j < 8 → rnd s w j = rnd t w j := by
  intro j hj
  unfold rnd fi1 fi2
  rw [h 0 (by omega), h 1 (by omega), h 2 (by omega), h 3 (by omega), h 4 (by omega), h 5 (by omega), h 6 (by omega), h 7 (by omega), h (j - 1) (by omega)]
theorem i_X3_turned {u : gx_S} {x k : Int32} {post : Int32 → gx_S → Prop} (h : post (tr x k) u) : S_X3_turned u x k post := h
def S_X3_mixRound (u : gx_S) (v0 : Nat) (v1 : Int32) (post : gx_S → Prop) : Prop := v0 = 7 ∧ cfix u ∧ ∀ u', exA [15] u u' → (∀ j, j < 8 → gx_a u' 15 j = rnd (gx_a u 15) v1 j) → post u'
theorem isA15 : gx_isA 15 .int := ⟨by decide, rfl⟩
theorem in15 {i : Nat} (h : i < 8) : vp_in (nI i) (gx_len 15) := vp_in_nI (N := 8) h (by omega)
theorem lp_X3_mixRound {E : gx_E} (X : gx_X E cX3_mixRound 9 RX3 none) (hd : 1 ≤ ex_d E) {post : gx_S → Prop} (hQ : ex_Q E = va_Qv post (gx_B (ex_Z E)) (gx_A (ex_Z E))) {v1 v2 v3 v4 v5 : Int32} {s : Nat → Int32} {u0 : gx_S} (hp : ∀ u', exA [15] u0 u' → (∀ j, j < 8 → gx_a u' 15 j = rnd s v1 j) → post u') :
    ∀ (i : Nat) (u : gx_S), i ≤ 7 → cfix u → exA [15] u0 u → (∀ j, j ≤ i → gx_a u 15 j = s j) → (∀ j, i < j → j < 8 → gx_a u 15 j = s (j - 1)) → J_X3_mixRound_132 E 7 v1 v2 v3 v4 v5 (fi1 s v1) (fi2 s) (nI i) u := by
  intro i
  induction i with
  | zero =>
    intro u hi hf hx h1 h2
    have e : gx_r u 7 1 = 15 := hf 7 1 (by decide)
    refine w_X3_mixRound_132 X hd hQ ⟨fun _ => ?_, fun q => absurd (show nI 0 ≤ 0 by decide) q⟩
    rw [e]
    refine ⟨isO_x 7 3 (by decide), isA15.r, in15 (i := 4) (by omega), isA15, in15 (i := 4) (by omega), ?_⟩
    rintro u6 rfl
    rw [gx_r_pa, e]
    refine ⟨isA15, in15 (i := 0) (by omega), ?_⟩
    rintro u9 rfl
    refine hp _ (exA_tr hx (exA_tr (exA_pa _ _ (by simp)) (exA_pa _ _ (by simp)))) (fun j hj => ?_)
    rw [gx_a_pa, if_pos rfl, gx_a_pa, if_pos rfl, show (0 : Int32).toNatClampNeg = 0 from rfl, show (4 : Int32).toNatClampNeg = 4 from rfl]
    unfold rnd
    by_cases e0 : j = 0
    · rw [e0, pk_us, if_pos rfl]
    · rw [pk_un e0, if_neg e0]
      by_cases e4 : j = 4
      · rw [e4, pk_us, if_pos rfl, h2 4 (by omega) (by omega)]
      · rw [pk_un e4, if_neg e4]
        exact h2 j (by omega) hj
  | succ i ih =>
    intro u hi hf hx h1 h2
    have e : gx_r u 7 1 = 15 := hf 7 1 (by decide)
    refine w_X3_mixRound_132 X hd hQ ⟨fun q => absurd q (nI_nle (by omega) (by omega)), fun _ => ?_⟩
    rw [e, show nI (i + 1) - (1 : Int32) = nI i from nI_pred i]
    refine ⟨isO_x 7 3 (by decide), isA15.r, in15 (by omega), isA15, in15 (by omega), ?_⟩
    rintro u15 rfl x16 rfl
    rw [pk_m1]
    refine ih _ (by omega) (fun o k h => hf o k h) (exA_tr hx (exA_pa _ _ (by simp))) (fun j hj => ?_) (fun j hj1 hj2 => ?_)
    · rw [gx_a_pa, if_pos rfl, nI_clamp (by omega), pk_un (by omega)]
      exact h1 j (by omega)
    · rw [gx_a_pa, if_pos rfl, nI_clamp (by omega), nI_clamp (by omega)]
      by_cases ej : j = i + 1
      · rw [ej, pk_us]; exact h1 i (by omega)
      · rw [pk_un ej]; exact h2 j (by omega) hj2
theorem w_X3_mixRound {E : gx_E} (X : gx_X E cX3_mixRound 9 RX3 none) (hd : 1 ≤ ex_d E) {post : gx_S → Prop} (hQ : ex_Q E = va_Qv post (gx_B (ex_Z E)) (gx_A (ex_Z E))) {u : gx_S} {v0 : Nat} {v1 : Int32} (h : S_X3_mixRound u v0 v1 post) : gx_Wc E 9 0 [(0, .ref (ex_ad E v0)), (1, .int v1)] [] u := by
  obtain ⟨rfl, hf, hp⟩ := h
  refine w_X3_mixRound_0 X hd hQ ?_
  rw [show gx_r u 7 1 = 15 from hf 7 1 (by decide)]
  refine ⟨isO_x 7 3 (by decide), isA15.r, in15 (i := 0) (by omega), ?_⟩
  rintro x4 rfl
  refine ⟨in15 (i := 4) (by omega), ?_⟩
  rintro x6 rfl
  refine ⟨in15 (i := 5) (by omega), in15 (i := 6) (by omega), ?_⟩
  rintro x9 rfl
  refine ⟨in15 (i := 1) (by omega), in15 (i := 2) (by omega), in15 (i := 1) (by omega), in15 (i := 2) (by omega), ?_⟩
  rintro x14 rfl
  refine ⟨in15 (i := 7) (by omega), i_X3_turned (i_X3_turned (i_X3_turned ?_))⟩
  rintro x22 rfl
  refine i_X3_turned (i_X3_turned (i_X3_turned ?_))
  rintro x29 rfl
  exact lp_X3_mixRound X hd hQ (s := gx_a u 15) hp 7 u (by omega) hf (exA_rf _ _) (fun j _ => rfl) (fun j h1 h2 => by omega)
theorem c_X3_mixRound {l : Launch} {Z : gx_Z} {u : gx_S} {v0 : Nat} {v1 : Int32} {post : gx_S → Prop} (h : S_X3_mixRound u v0 v1 post) : Met l yX3_mixRound (Cond.code yX3_mixRound cX3_mixRound 9 none :: gx_TB) (gx_rm 1) (gx_Pre Z u [.ref (Z.2.1 v0), .int v1]) (va_Qv post (gx_B Z) (gx_A Z)) 0 0 (gx_A Z) := by
  refine gx_met (by decide +kernel) (Nat.le_of_ble_eq_true rfl) ?_
  intro E X hZ hQ hD hL
  subst hZ
  exact w_X3_mixRound X (Nat.le_of_eq hD.symm) hQ h

-- PlainSeal$Modular.canTake(LPlainSeal$Bytes;)Z
theorem dX2_canTake_0 : decode cX2_canTake 0 = .ok (.aload_n 1, 1) := by decide +kernel
theorem dX2_canTake_1 : decode cX2_canTake 1 = .ok (.invokevirtual 22, 3) := by decide +kernel
theorem dX2_canTake_4 : decode cX2_canTake 4 = .ok (.sipush 128, 3) := by decide +kernel
theorem dX2_canTake_7 : decode cX2_canTake 7 = .ok (.if_icmp .ne 31, 3) := by decide +kernel
theorem dX2_canTake_10 : decode cX2_canTake 10 = .ok (.aload_n 1, 1) := by decide +kernel
theorem dX2_canTake_11 : decode cX2_canTake 11 = .ok (.bipush 64, 2) := by decide +kernel
theorem dX2_canTake_13 : decode cX2_canTake 13 = .ok (.invokevirtual 28, 3) := by decide +kernel
theorem dX2_canTake_16 : decode cX2_canTake 16 = .ok (.sipush 128, 3) := by decide +kernel
theorem dX2_canTake_19 : decode cX2_canTake 19 = .ok (.iand, 1) := by decide +kernel
theorem dX2_canTake_20 : decode cX2_canTake 20 = .ok (.ifCond .eq 18, 3) := by decide +kernel
theorem dX2_canTake_23 : decode cX2_canTake 23 = .ok (.aload_n 1, 1) := by decide +kernel
theorem dX2_canTake_24 : decode cX2_canTake 24 = .ok (.bipush 127, 2) := by decide +kernel
theorem dX2_canTake_26 : decode cX2_canTake 26 = .ok (.invokevirtual 28, 3) := by decide +kernel
theorem dX2_canTake_29 : decode cX2_canTake 29 = .ok (.iconst 1, 1) := by decide +kernel
theorem dX2_canTake_30 : decode cX2_canTake 30 = .ok (.iand, 1) := by decide +kernel
theorem dX2_canTake_31 : decode cX2_canTake 31 = .ok (.ifCond .eq 7, 3) := by decide +kernel
theorem dX2_canTake_34 : decode cX2_canTake 34 = .ok (.iconst 1, 1) := by decide +kernel
theorem dX2_canTake_35 : decode cX2_canTake 35 = .ok (.goto 4, 3) := by decide +kernel
theorem dX2_canTake_38 : decode cX2_canTake 38 = .ok (.iconst 0, 1) := by decide +kernel
theorem dX2_canTake_39 : decode cX2_canTake 39 = .ok (.ireturn, 1) := by decide +kernel
theorem hyX2_canTake : yX2_canTake.cls ≠ "java/lang/invoke/MethodHandle" ∧ yX2_canTake.cls ≠ "java/lang/invoke/VarHandle" ∧ (parseMethodDescriptor yX2_canTake.desc).map (fun d => d.parameters.length) = some 1 := by decide +kernel
def S_X2_canTake (u : gx_S) (v0 : Nat) (v1 : Nat) (post : Int32 → gx_S → Prop) : Prop := (gx_isO v1 0 ∧ S_X0_size u v1 (fun (r3 : Int32) (u2 : gx_S) => ((¬ r3 = (128 : Int32) → post (0 : Int32) u2) ∧ (r3 = (128 : Int32) → (S_X0_at u2 v1 (64 : Int32) (fun (r5 : Int32) (u4 : gx_S) => (((r5 &&& (128 : Int32)) = 0 → post (0 : Int32) u4) ∧ (¬ (r5 &&& (128 : Int32)) = 0 → (S_X0_at u4 v1 (127 : Int32) (fun (r7 : Int32) (u6 : gx_S) => (((r7 &&& (1 : Int32)) = 0 → post (0 : Int32) u6) ∧ (¬ (r7 &&& (1 : Int32)) = 0 → post (1 : Int32) u6))))))))))))
set_option maxHeartbeats 4000000 in
set_option maxRecDepth 100000 in
theorem w_X2_canTake {E : gx_E} (X : gx_X E cX2_canTake 2 RX2 (some .boolean)) (hd : 1 ≤ ex_d E) {post : Int32 → gx_S → Prop} (hQ : ex_Q E = va_Qi post (gx_B (ex_Z E)) (gx_A (ex_Z E))) {u : gx_S} {v0 : Nat} {v1 : Nat} (h : S_X2_canTake u v0 v1 post) : gx_Wc E 2 0 [(0, .ref (ex_ad E v0)), (1, .ref (ex_ad E v1))] [] u := by
  unfold S_X2_canTake at h
  refine gx_aload_n X (j := 1) dX2_canTake_0 rfl rfl ?_
  obtain ⟨k1, h⟩ := h
  refine gx_ki (gx_rV X (c_X0_size h) (Nat.le_trans (by decide) hd) (Nat.le_trans (by decide) (Nat.mul_le_mul_left 40 hd)) k1 rfl mw_374 mw_128 mw_129 mw_2 mw_130 hyX0_size (As := []) (rest := []) rfl rfl (Nat.le_of_ble_eq_true rfl) dX2_canTake_1) (fun r3 u2 h => ?_)
  refine gx_sipush X (v := 128) dX2_canTake_4 (by decide) ?_
  refine gx_icmp_ne X (tgt := 38) dX2_canTake_7 (by decide) (fun c10 => ?_) (fun c10 => ?_)
  · replace h := h.1 c10
    refine gx_iconst X (v := 0) dX2_canTake_38 (by decide) ?_
    exact gx_zret X hQ rfl h dX2_canTake_39
  · replace h := h.2 c10
    refine gx_aload_n X (j := 1) dX2_canTake_10 rfl rfl ?_
    refine gx_bipush X (v := 64) dX2_canTake_11 (by decide) ?_
    refine gx_ki (gx_rV X (c_X0_at h) (Nat.le_trans (by decide) hd) (Nat.le_trans (by decide) (Nat.mul_le_mul_left 40 hd)) k1 rfl mw_375 mw_163 mw_164 mw_2 mw_165 hyX0_at (As := [.int (64 : Int32)]) (rest := []) rfl rfl (Nat.le_of_ble_eq_true rfl) dX2_canTake_13) (fun r5 u4 h => ?_)
    refine gx_sipush X (v := 128) dX2_canTake_16 (by decide) ?_
    refine gx_iand X dX2_canTake_19 ?_
    refine gx_if_eq X (tgt := 38) dX2_canTake_20 (by decide) (fun c9 => ?_) (fun c9 => ?_)
    · replace h := h.1 c9
      refine gx_iconst X (v := 0) dX2_canTake_38 (by decide) ?_
      exact gx_zret X hQ rfl h dX2_canTake_39
    · replace h := h.2 c9
      refine gx_aload_n X (j := 1) dX2_canTake_23 rfl rfl ?_
      refine gx_bipush X (v := 127) dX2_canTake_24 (by decide) ?_
      refine gx_ki (gx_rV X (c_X0_at h) (Nat.le_trans (by decide) hd) (Nat.le_trans (by decide) (Nat.mul_le_mul_left 40 hd)) k1 rfl mw_375 mw_163 mw_164 mw_2 mw_165 hyX0_at (As := [.int (127 : Int32)]) (rest := []) rfl rfl (Nat.le_of_ble_eq_true rfl) dX2_canTake_26) (fun r7 u6 h => ?_)
      refine gx_iconst X (v := 1) dX2_canTake_29 (by decide) ?_
      refine gx_iand X dX2_canTake_30 ?_
      refine gx_if_eq X (tgt := 38) dX2_canTake_31 (by decide) (fun c8 => ?_) (fun c8 => ?_)
      · replace h := h.1 c8
        refine gx_iconst X (v := 0) dX2_canTake_38 (by decide) ?_
        exact gx_zret X hQ rfl h dX2_canTake_39
      · replace h := h.2 c8
        refine gx_iconst X (v := 1) dX2_canTake_34 (by decide) ?_
        refine gx_goto X (tgt := 39) dX2_canTake_35 (by decide) ?_
        exact gx_zret X hQ rfl h dX2_canTake_39
theorem c_X2_canTake {l : Launch} {Z : gx_Z} {u : gx_S} {v0 : Nat} {v1 : Nat} {post : Int32 → gx_S → Prop} (h : S_X2_canTake u v0 v1 post) : Met l yX2_canTake (Cond.code yX2_canTake cX2_canTake 2 (some .boolean) :: gx_TB) (gx_rm 1) (gx_Pre Z u [.ref (Z.2.1 v0), .ref (Z.2.1 v1)]) (va_Qi post (gx_B Z) (gx_A Z)) 0 0 (gx_A Z) := by
  refine gx_met (by decide +kernel) (Nat.le_of_ble_eq_true rfl) ?_
  intro E X hZ hQ hD hL
  subst hZ
  exact w_X2_canTake X (Nat.le_of_eq hD.symm) hQ h
-- PlainSeal$Modular.take(LPlainSeal$Bytes;)V
theorem dX2_take_0 : decode cX2_take 0 = .ok (.aload_n 1, 1) := by decide +kernel
theorem dX2_take_1 : decode cX2_take 1 = .ok (.iconst 0, 1) := by decide +kernel
theorem dX2_take_2 : decode cX2_take 2 = .ok (.aload_n 0, 1) := by decide +kernel
theorem dX2_take_3 : decode cX2_take 3 = .ok (.getfield 9, 3) := by decide +kernel
theorem dX2_take_6 : decode cX2_take 6 = .ok (.invokestatic 32, 3) := by decide +kernel
theorem dX2_take_9 : decode cX2_take 9 = .ok (.aload_n 1, 1) := by decide +kernel
theorem dX2_take_10 : decode cX2_take 10 = .ok (.bipush 64, 2) := by decide +kernel
theorem dX2_take_12 : decode cX2_take 12 = .ok (.aload_n 0, 1) := by decide +kernel
theorem dX2_take_13 : decode cX2_take 13 = .ok (.getfield 13, 3) := by decide +kernel
theorem dX2_take_16 : decode cX2_take 16 = .ok (.invokestatic 32, 3) := by decide +kernel
theorem dX2_take_19 : decode cX2_take 19 = .ok (.return_, 1) := by decide +kernel
theorem hyX2_take : yX2_take.cls ≠ "java/lang/invoke/MethodHandle" ∧ yX2_take.cls ≠ "java/lang/invoke/VarHandle" ∧ (parseMethodDescriptor yX2_take.desc).map (fun d => d.parameters.length) = some 1 := by decide +kernel
def S_X2_take (u : gx_S) (v0 : Nat) (v1 : Nat) (post : gx_S → Prop) : Prop := (gx_isO v0 2 ∧ (S_X2_takeNumber u v1 (0 : Int32) (gx_r u v0 0) (fun (u2 : gx_S) => (S_X2_takeNumber u2 v1 (64 : Int32) (gx_r u2 v0 1) (fun (u3 : gx_S) => post u3)))))
set_option maxHeartbeats 4000000 in
set_option maxRecDepth 100000 in
theorem w_X2_take {E : gx_E} (X : gx_X E cX2_take 2 RX2 none) (hd : 2 ≤ ex_d E) {post : gx_S → Prop} (hQ : ex_Q E = va_Qv post (gx_B (ex_Z E)) (gx_A (ex_Z E))) {u : gx_S} {v0 : Nat} {v1 : Nat} (h : S_X2_take u v0 v1 post) : gx_Wc E 2 0 [(0, .ref (ex_ad E v0)), (1, .ref (ex_ad E v1))] [] u := by
  unfold S_X2_take at h
  refine gx_aload_n X (j := 1) dX2_take_0 rfl rfl ?_
  refine gx_iconst X (v := 0) dX2_take_1 (by decide) ?_
  refine gx_aload_n X (j := 0) dX2_take_2 rfl rfl ?_
  obtain ⟨k1, h⟩ := h
  refine gx_get X k1 rfl iwX2 0 (by decide) mw_91 (v := .ref (ex_ad E (gx_r u v0 0))) rfl dX2_take_3 ?_
  refine gx_kv (gx_rS X (c_X2_takeNumber h) (Nat.le_trans (by decide) hd) (Nat.le_trans (by decide) (Nat.mul_le_mul_left 40 hd)) mw_380 mw_381 mw_6 mw_382 hyX2_takeNumber (As := [.ref (ex_ad E v1), .int (0 : Int32), .ref (ex_ad E (gx_r u v0 0))]) (rest := []) rfl rfl (Nat.le_of_ble_eq_true rfl) dX2_take_6) (fun u2 h => ?_)
  refine gx_aload_n X (j := 1) dX2_take_9 rfl rfl ?_
  refine gx_bipush X (v := 64) dX2_take_10 (by decide) ?_
  refine gx_aload_n X (j := 0) dX2_take_12 rfl rfl ?_
  refine gx_get X k1 rfl iwX2 1 (by decide) mw_92 (v := .ref (ex_ad E (gx_r u2 v0 1))) rfl dX2_take_13 ?_
  refine gx_kv (gx_rS X (c_X2_takeNumber h) (Nat.le_trans (by decide) hd) (Nat.le_trans (by decide) (Nat.mul_le_mul_left 40 hd)) mw_380 mw_381 mw_6 mw_382 hyX2_takeNumber (As := [.ref (ex_ad E v1), .int (64 : Int32), .ref (ex_ad E (gx_r u2 v0 1))]) (rest := []) rfl rfl (Nat.le_of_ble_eq_true rfl) dX2_take_16) (fun u3 h => ?_)
  exact gx_vret X hQ h dX2_take_19
theorem c_X2_take {l : Launch} {Z : gx_Z} {u : gx_S} {v0 : Nat} {v1 : Nat} {post : gx_S → Prop} (h : S_X2_take u v0 v1 post) : Met l yX2_take (Cond.code yX2_take cX2_take 2 none :: gx_TB) (gx_rm 2) (gx_Pre Z u [.ref (Z.2.1 v0), .ref (Z.2.1 v1)]) (va_Qv post (gx_B Z) (gx_A Z)) 0 0 (gx_A Z) := by
  refine gx_met (by decide +kernel) (Nat.le_of_ble_eq_true rfl) ?_
  intro E X hZ hQ hD hL
  subst hZ
  exact w_X2_take X (Nat.le_of_eq hD.symm) hQ h
-- PlainSeal$Modular.bringBaseBelowModulus()V
theorem dX2_bringBaseBelowModulus_0 : decode cX2_bringBaseBelowModulus 0 = .ok (.iconst 0, 1) := by decide +kernel
theorem dX2_bringBaseBelowModulus_1 : decode cX2_bringBaseBelowModulus 1 = .ok (.istore_n 1, 1) := by decide +kernel
theorem dX2_bringBaseBelowModulus_2 : decode cX2_bringBaseBelowModulus 2 = .ok (.iload_n 1, 1) := by decide +kernel
theorem dX2_bringBaseBelowModulus_3 : decode cX2_bringBaseBelowModulus 3 = .ok (.bipush 32, 2) := by decide +kernel
theorem dX2_bringBaseBelowModulus_5 : decode cX2_bringBaseBelowModulus 5 = .ok (.if_icmp .ge 31, 3) := by decide +kernel
theorem dX2_bringBaseBelowModulus_8 : decode cX2_bringBaseBelowModulus 8 = .ok (.aload_n 0, 1) := by decide +kernel
theorem dX2_bringBaseBelowModulus_9 : decode cX2_bringBaseBelowModulus 9 = .ok (.getfield 19, 3) := by decide +kernel
theorem dX2_bringBaseBelowModulus_12 : decode cX2_bringBaseBelowModulus 12 = .ok (.iload_n 1, 1) := by decide +kernel
theorem dX2_bringBaseBelowModulus_13 : decode cX2_bringBaseBelowModulus 13 = .ok (.aload_n 0, 1) := by decide +kernel
theorem dX2_bringBaseBelowModulus_14 : decode cX2_bringBaseBelowModulus 14 = .ok (.getfield 9, 3) := by decide +kernel
theorem dX2_bringBaseBelowModulus_17 : decode cX2_bringBaseBelowModulus 17 = .ok (.iload_n 1, 1) := by decide +kernel
theorem dX2_bringBaseBelowModulus_18 : decode cX2_bringBaseBelowModulus 18 = .ok (.iaload, 1) := by decide +kernel
theorem dX2_bringBaseBelowModulus_19 : decode cX2_bringBaseBelowModulus 19 = .ok (.iastore, 1) := by decide +kernel
theorem dX2_bringBaseBelowModulus_20 : decode cX2_bringBaseBelowModulus 20 = .ok (.aload_n 0, 1) := by decide +kernel
theorem dX2_bringBaseBelowModulus_21 : decode cX2_bringBaseBelowModulus 21 = .ok (.getfield 19, 3) := by decide +kernel
theorem dX2_bringBaseBelowModulus_24 : decode cX2_bringBaseBelowModulus 24 = .ok (.bipush 32, 2) := by decide +kernel
theorem dX2_bringBaseBelowModulus_26 : decode cX2_bringBaseBelowModulus 26 = .ok (.iload_n 1, 1) := by decide +kernel
theorem dX2_bringBaseBelowModulus_27 : decode cX2_bringBaseBelowModulus 27 = .ok (.iadd, 1) := by decide +kernel
theorem dX2_bringBaseBelowModulus_28 : decode cX2_bringBaseBelowModulus 28 = .ok (.iconst 0, 1) := by decide +kernel
theorem dX2_bringBaseBelowModulus_29 : decode cX2_bringBaseBelowModulus 29 = .ok (.iastore, 1) := by decide +kernel
theorem dX2_bringBaseBelowModulus_30 : decode cX2_bringBaseBelowModulus 30 = .ok (.iinc 1 1, 3) := by decide +kernel
theorem dX2_bringBaseBelowModulus_33 : decode cX2_bringBaseBelowModulus 33 = .ok (.goto (-31), 3) := by decide +kernel
theorem dX2_bringBaseBelowModulus_36 : decode cX2_bringBaseBelowModulus 36 = .ok (.aload_n 0, 1) := by decide +kernel
theorem dX2_bringBaseBelowModulus_37 : decode cX2_bringBaseBelowModulus 37 = .ok (.invokevirtual 50, 3) := by decide +kernel
theorem dX2_bringBaseBelowModulus_40 : decode cX2_bringBaseBelowModulus 40 = .ok (.iconst 0, 1) := by decide +kernel
theorem dX2_bringBaseBelowModulus_41 : decode cX2_bringBaseBelowModulus 41 = .ok (.istore_n 1, 1) := by decide +kernel
theorem dX2_bringBaseBelowModulus_42 : decode cX2_bringBaseBelowModulus 42 = .ok (.iload_n 1, 1) := by decide +kernel
theorem dX2_bringBaseBelowModulus_43 : decode cX2_bringBaseBelowModulus 43 = .ok (.bipush 32, 2) := by decide +kernel
theorem dX2_bringBaseBelowModulus_45 : decode cX2_bringBaseBelowModulus 45 = .ok (.if_icmp .ge 21, 3) := by decide +kernel
theorem dX2_bringBaseBelowModulus_48 : decode cX2_bringBaseBelowModulus 48 = .ok (.aload_n 0, 1) := by decide +kernel
theorem dX2_bringBaseBelowModulus_49 : decode cX2_bringBaseBelowModulus 49 = .ok (.getfield 9, 3) := by decide +kernel
theorem dX2_bringBaseBelowModulus_52 : decode cX2_bringBaseBelowModulus 52 = .ok (.iload_n 1, 1) := by decide +kernel
theorem dX2_bringBaseBelowModulus_53 : decode cX2_bringBaseBelowModulus 53 = .ok (.aload_n 0, 1) := by decide +kernel
theorem dX2_bringBaseBelowModulus_54 : decode cX2_bringBaseBelowModulus 54 = .ok (.getfield 16, 3) := by decide +kernel
theorem dX2_bringBaseBelowModulus_57 : decode cX2_bringBaseBelowModulus 57 = .ok (.iload_n 1, 1) := by decide +kernel
theorem dX2_bringBaseBelowModulus_58 : decode cX2_bringBaseBelowModulus 58 = .ok (.iaload, 1) := by decide +kernel
theorem dX2_bringBaseBelowModulus_59 : decode cX2_bringBaseBelowModulus 59 = .ok (.iastore, 1) := by decide +kernel
theorem dX2_bringBaseBelowModulus_60 : decode cX2_bringBaseBelowModulus 60 = .ok (.iinc 1 1, 3) := by decide +kernel
theorem dX2_bringBaseBelowModulus_63 : decode cX2_bringBaseBelowModulus 63 = .ok (.goto (-21), 3) := by decide +kernel
theorem dX2_bringBaseBelowModulus_66 : decode cX2_bringBaseBelowModulus 66 = .ok (.return_, 1) := by decide +kernel
theorem hyX2_bringBaseBelowModulus : yX2_bringBaseBelowModulus.cls ≠ "java/lang/invoke/MethodHandle" ∧ yX2_bringBaseBelowModulus.cls ≠ "java/lang/invoke/VarHandle" ∧ (parseMethodDescriptor yX2_bringBaseBelowModulus.desc).map (fun d => d.parameters.length) = some 0 := by decide +kernel
abbrev J_X2_bringBaseBelowModulus_2 (E : gx_E) (v0 : Nat) (v1 : Int32) (u : gx_S) : Prop := gx_Wc E 2 2 [(0, .ref (ex_ad E v0)), (1, .int v1)] [] u
abbrev J_X2_bringBaseBelowModulus_42 (E : gx_E) (v0 : Nat) (v1 : Int32) (u : gx_S) : Prop := gx_Wc E 2 42 [(0, .ref (ex_ad E v0)), (1, .int v1)] [] u
set_option maxHeartbeats 4000000 in
set_option maxRecDepth 100000 in
theorem w_X2_bringBaseBelowModulus_0 {E : gx_E} (X : gx_X E cX2_bringBaseBelowModulus 2 RX2 none) (hd : 3 ≤ ex_d E) {post : gx_S → Prop} (hQ : ex_Q E = va_Qv post (gx_B (ex_Z E)) (gx_A (ex_Z E))) {u : gx_S} {v0 : Nat} (h : J_X2_bringBaseBelowModulus_2 E v0 (0 : Int32) u) : gx_Wc E 2 0 [(0, .ref (ex_ad E v0))] [] u := by
  refine gx_iconst X (v := 0) dX2_bringBaseBelowModulus_0 (by decide) ?_
  refine gx_istore_n X (lv' := [(1, .int (0 : Int32)), (0, .ref (ex_ad E v0))]) dX2_bringBaseBelowModulus_1 rfl (by decide) rfl ?_
  exact gx_sub [1, 0] rfl h
set_option maxHeartbeats 4000000 in
set_option maxRecDepth 100000 in
theorem w_X2_bringBaseBelowModulus_2 {E : gx_E} (X : gx_X E cX2_bringBaseBelowModulus 2 RX2 none) (hd : 3 ≤ ex_d E) {post : gx_S → Prop} (hQ : ex_Q E = va_Qv post (gx_B (ex_Z E)) (gx_A (ex_Z E))) {u : gx_S} {v0 : Nat} {v1 : Int32} (h : (((32 : Int32) ≤ v1 → (gx_isO v0 2 ∧ S_X2_divideProduct u v0 (fun (u2 : gx_S) => J_X2_bringBaseBelowModulus_42 E v0 (0 : Int32) u2))) ∧ (¬ (32 : Int32) ≤ v1 → (gx_isO v0 2 ∧ (gx_isR (gx_r u v0 0) .int ∧ vp_in v1 (gx_len (gx_r u v0 0)) ∧ (gx_isA (gx_r u v0 3) .int ∧ vp_in v1 (gx_len (gx_r u v0 3)) ∧ ∀ u8 : gx_S, u8 = gx_pa u (gx_r u v0 3) (upd (gx_a u (gx_r u v0 3)) v1.toNatClampNeg (gx_a u (gx_r u v0 0) v1.toNatClampNeg)) → (gx_isA (gx_r u8 v0 3) .int ∧ vp_in ((32 : Int32) + v1) (gx_len (gx_r u8 v0 3)) ∧ ∀ u11 : gx_S, u11 = gx_pa u8 (gx_r u8 v0 3) (upd (gx_a u8 (gx_r u8 v0 3)) ((32 : Int32) + v1).toNatClampNeg (0 : Int32)) → (∀ x12 : Int32, x12 = v1 + 1 → J_X2_bringBaseBelowModulus_2 E v0 x12 u11)))))))) : gx_Wc E 2 2 [(0, .ref (ex_ad E v0)), (1, .int v1)] [] u := by
  refine gx_iload_n X (j := 1) dX2_bringBaseBelowModulus_2 rfl rfl ?_
  refine gx_bipush X (v := 32) dX2_bringBaseBelowModulus_3 (by decide) ?_
  refine gx_icmp_ge X (tgt := 36) dX2_bringBaseBelowModulus_5 (by decide) (fun c13 => ?_) (fun c13 => ?_)
  · replace h := h.1 c13
    refine gx_aload_n X (j := 0) dX2_bringBaseBelowModulus_36 rfl rfl ?_
    obtain ⟨k1, h⟩ := h
    refine gx_kv (gx_rV X (c_X2_divideProduct h) (Nat.le_trans (by decide) hd) (Nat.le_trans (by decide) (Nat.mul_le_mul_left 40 hd)) k1 rfl mw_391 mw_393 mp_6 mw_6 mw_394 hyX2_divideProduct (As := []) (rest := []) rfl rfl (Nat.le_of_ble_eq_true rfl) dX2_bringBaseBelowModulus_37) (fun u2 h => ?_)
    refine gx_iconst X (v := 0) dX2_bringBaseBelowModulus_40 (by decide) ?_
    refine gx_istore_n X (lv' := [(1, .int (0 : Int32)), (0, .ref (ex_ad E v0))]) dX2_bringBaseBelowModulus_41 rfl (by decide) rfl ?_
    exact gx_sub [1, 0] rfl h
  · replace h := h.2 c13
    refine gx_aload_n X (j := 0) dX2_bringBaseBelowModulus_8 rfl rfl ?_
    obtain ⟨k3, h⟩ := h
    refine gx_get X k3 rfl iwX2 3 (by decide) mw_94 (v := .ref (ex_ad E (gx_r u v0 3))) rfl dX2_bringBaseBelowModulus_9 ?_
    refine gx_iload_n X (j := 1) dX2_bringBaseBelowModulus_12 rfl rfl ?_
    refine gx_aload_n X (j := 0) dX2_bringBaseBelowModulus_13 rfl rfl ?_
    refine gx_get X k3 rfl iwX2 0 (by decide) mw_91 (v := .ref (ex_ad E (gx_r u v0 0))) rfl dX2_bringBaseBelowModulus_14 ?_
    refine gx_iload_n X (j := 1) dX2_bringBaseBelowModulus_17 rfl rfl ?_
    obtain ⟨k4, h⟩ := h
    obtain ⟨k5, h⟩ := h
    refine gx_iald X k4 k5 dX2_bringBaseBelowModulus_18 ?_
    obtain ⟨k6, h⟩ := h
    obtain ⟨k7, h⟩ := h
    refine gx_iast X k6 k7 dX2_bringBaseBelowModulus_19 ?_
    refine gx_nams (fun u8 eu8 => ?_)
    replace h := h u8 eu8
    refine gx_aload_n X (j := 0) dX2_bringBaseBelowModulus_20 rfl rfl ?_
    refine gx_get X k3 rfl iwX2 3 (by decide) mw_94 (v := .ref (ex_ad E (gx_r u8 v0 3))) rfl dX2_bringBaseBelowModulus_21 ?_
    refine gx_bipush X (v := 32) dX2_bringBaseBelowModulus_24 (by decide) ?_
    refine gx_iload_n X (j := 1) dX2_bringBaseBelowModulus_26 rfl rfl ?_
    refine gx_iadd X dX2_bringBaseBelowModulus_27 ?_
    refine gx_iconst X (v := 0) dX2_bringBaseBelowModulus_28 (by decide) ?_
    obtain ⟨k9, h⟩ := h
    obtain ⟨k10, h⟩ := h
    refine gx_iast X k9 k10 dX2_bringBaseBelowModulus_29 ?_
    refine gx_nams (fun u11 eu11 => ?_)
    replace h := h u11 eu11
    obtain ⟨x12, ex12⟩ : ∃ y : Int32, y = v1 + 1 := ⟨_, rfl⟩
    replace h := h x12 ex12
    refine gx_iinc X (v := x12) (lv' := [(1, .int x12), (0, .ref (ex_ad E v0))]) dX2_bringBaseBelowModulus_30 (j := 1) rfl (by rw [ex12]; rfl) (by decide) rfl ?_
    refine gx_goto X (tgt := 2) dX2_bringBaseBelowModulus_33 (by decide) ?_
    exact gx_sub [1, 0] rfl h
set_option maxHeartbeats 4000000 in
set_option maxRecDepth 100000 in
theorem w_X2_bringBaseBelowModulus_42 {E : gx_E} (X : gx_X E cX2_bringBaseBelowModulus 2 RX2 none) (hd : 3 ≤ ex_d E) {post : gx_S → Prop} (hQ : ex_Q E = va_Qv post (gx_B (ex_Z E)) (gx_A (ex_Z E))) {u : gx_S} {v0 : Nat} {v1 : Int32} (h : (((32 : Int32) ≤ v1 → post u) ∧ (¬ (32 : Int32) ≤ v1 → (gx_isO v0 2 ∧ (gx_isR (gx_r u v0 2) .int ∧ vp_in v1 (gx_len (gx_r u v0 2)) ∧ (gx_isA (gx_r u v0 0) .int ∧ vp_in v1 (gx_len (gx_r u v0 0)) ∧ ∀ u6 : gx_S, u6 = gx_pa u (gx_r u v0 0) (upd (gx_a u (gx_r u v0 0)) v1.toNatClampNeg (gx_a u (gx_r u v0 2) v1.toNatClampNeg)) → (∀ x7 : Int32, x7 = v1 + 1 → J_X2_bringBaseBelowModulus_42 E v0 x7 u6))))))) : gx_Wc E 2 42 [(0, .ref (ex_ad E v0)), (1, .int v1)] [] u := by
  refine gx_iload_n X (j := 1) dX2_bringBaseBelowModulus_42 rfl rfl ?_
  refine gx_bipush X (v := 32) dX2_bringBaseBelowModulus_43 (by decide) ?_
  refine gx_icmp_ge X (tgt := 66) dX2_bringBaseBelowModulus_45 (by decide) (fun c8 => ?_) (fun c8 => ?_)
  · replace h := h.1 c8
    exact gx_vret X hQ h dX2_bringBaseBelowModulus_66
  · replace h := h.2 c8
    refine gx_aload_n X (j := 0) dX2_bringBaseBelowModulus_48 rfl rfl ?_
    obtain ⟨k1, h⟩ := h
    refine gx_get X k1 rfl iwX2 0 (by decide) mw_91 (v := .ref (ex_ad E (gx_r u v0 0))) rfl dX2_bringBaseBelowModulus_49 ?_
    refine gx_iload_n X (j := 1) dX2_bringBaseBelowModulus_52 rfl rfl ?_
    refine gx_aload_n X (j := 0) dX2_bringBaseBelowModulus_53 rfl rfl ?_
    refine gx_get X k1 rfl iwX2 2 (by decide) mw_93 (v := .ref (ex_ad E (gx_r u v0 2))) rfl dX2_bringBaseBelowModulus_54 ?_
    refine gx_iload_n X (j := 1) dX2_bringBaseBelowModulus_57 rfl rfl ?_
    obtain ⟨k2, h⟩ := h
    obtain ⟨k3, h⟩ := h
    refine gx_iald X k2 k3 dX2_bringBaseBelowModulus_58 ?_
    obtain ⟨k4, h⟩ := h
    obtain ⟨k5, h⟩ := h
    refine gx_iast X k4 k5 dX2_bringBaseBelowModulus_59 ?_
    refine gx_nams (fun u6 eu6 => ?_)
    replace h := h u6 eu6
    obtain ⟨x7, ex7⟩ : ∃ y : Int32, y = v1 + 1 := ⟨_, rfl⟩
    replace h := h x7 ex7
    refine gx_iinc X (v := x7) (lv' := [(1, .int x7), (0, .ref (ex_ad E v0))]) dX2_bringBaseBelowModulus_60 (j := 1) rfl (by rw [ex7]; rfl) (by decide) rfl ?_
    refine gx_goto X (tgt := 42) dX2_bringBaseBelowModulus_63 (by decide) ?_
    exact gx_sub [1, 0] rfl h
-- PlainSeal$Modular.write(LPlainSeal$Bytes;)V
theorem dX2_write_0 : decode cX2_write 0 = .ok (.aload_n 1, 1) := by decide +kernel
theorem dX2_write_1 : decode cX2_write 1 = .ok (.invokevirtual 36, 3) := by decide +kernel
theorem dX2_write_4 : decode cX2_write 4 = .ok (.bipush 31, 2) := by decide +kernel
theorem dX2_write_6 : decode cX2_write 6 = .ok (.istore_n 2, 1) := by decide +kernel
theorem dX2_write_7 : decode cX2_write 7 = .ok (.iload_n 2, 1) := by decide +kernel
theorem dX2_write_8 : decode cX2_write 8 = .ok (.ifCond .lt 32, 3) := by decide +kernel
theorem dX2_write_11 : decode cX2_write 11 = .ok (.aload_n 1, 1) := by decide +kernel
theorem dX2_write_12 : decode cX2_write 12 = .ok (.aload_n 0, 1) := by decide +kernel
theorem dX2_write_13 : decode cX2_write 13 = .ok (.getfield 16, 3) := by decide +kernel
theorem dX2_write_16 : decode cX2_write 16 = .ok (.iload_n 2, 1) := by decide +kernel
theorem dX2_write_17 : decode cX2_write 17 = .ok (.iaload, 1) := by decide +kernel
theorem dX2_write_18 : decode cX2_write 18 = .ok (.bipush 8, 2) := by decide +kernel
theorem dX2_write_20 : decode cX2_write 20 = .ok (.iushr, 1) := by decide +kernel
theorem dX2_write_21 : decode cX2_write 21 = .ok (.invokevirtual 39, 3) := by decide +kernel
theorem dX2_write_24 : decode cX2_write 24 = .ok (.aload_n 1, 1) := by decide +kernel
theorem dX2_write_25 : decode cX2_write 25 = .ok (.aload_n 0, 1) := by decide +kernel
theorem dX2_write_26 : decode cX2_write 26 = .ok (.getfield 16, 3) := by decide +kernel
theorem dX2_write_29 : decode cX2_write 29 = .ok (.iload_n 2, 1) := by decide +kernel
theorem dX2_write_30 : decode cX2_write 30 = .ok (.iaload, 1) := by decide +kernel
theorem dX2_write_31 : decode cX2_write 31 = .ok (.invokevirtual 39, 3) := by decide +kernel
theorem dX2_write_34 : decode cX2_write 34 = .ok (.iinc 2 (-1), 3) := by decide +kernel
theorem dX2_write_37 : decode cX2_write 37 = .ok (.goto (-30), 3) := by decide +kernel
theorem dX2_write_40 : decode cX2_write 40 = .ok (.return_, 1) := by decide +kernel
theorem hyX2_write : yX2_write.cls ≠ "java/lang/invoke/MethodHandle" ∧ yX2_write.cls ≠ "java/lang/invoke/VarHandle" ∧ (parseMethodDescriptor yX2_write.desc).map (fun d => d.parameters.length) = some 1 := by decide +kernel
abbrev J_X2_write_7 (E : gx_E) (v0 : Nat) (v1 : Nat) (v2 : Int32) (u : gx_S) : Prop := gx_Wc E 3 7 [(0, .ref (ex_ad E v0)), (1, .ref (ex_ad E v1)), (2, .int v2)] [] u
set_option maxHeartbeats 4000000 in
set_option maxRecDepth 100000 in
theorem w_X2_write_0 {E : gx_E} (X : gx_X E cX2_write 3 RX2 none) (hd : 1 ≤ ex_d E) {post : gx_S → Prop} (hQ : ex_Q E = va_Qv post (gx_B (ex_Z E)) (gx_A (ex_Z E))) {u : gx_S} {v0 : Nat} {v1 : Nat} (h : (gx_isO v1 0 ∧ S_X0_clear u v1 (fun (u2 : gx_S) => J_X2_write_7 E v0 v1 (31 : Int32) u2))) : gx_Wc E 3 0 [(0, .ref (ex_ad E v0)), (1, .ref (ex_ad E v1))] [] u := by
  refine gx_aload_n X (j := 1) dX2_write_0 rfl rfl ?_
  obtain ⟨k1, h⟩ := h
  refine gx_kv (gx_rV X (c_X0_clear h) (Nat.le_trans (by decide) hd) (Nat.le_trans (by decide) (Nat.mul_le_mul_left 40 hd)) k1 rfl mw_420 mw_192 mw_193 mw_2 mw_194 hyX0_clear (As := []) (rest := []) rfl rfl (Nat.le_of_ble_eq_true rfl) dX2_write_1) (fun u2 h => ?_)
  refine gx_bipush X (v := 31) dX2_write_4 (by decide) ?_
  refine gx_istore_n X (lv' := [(2, .int (31 : Int32)), (0, .ref (ex_ad E v0)), (1, .ref (ex_ad E v1))]) dX2_write_6 rfl (by decide) rfl ?_
  exact gx_sub [1, 2, 0] rfl h
set_option maxHeartbeats 4000000 in
set_option maxRecDepth 100000 in
theorem w_X2_write_7 {E : gx_E} (X : gx_X E cX2_write 3 RX2 none) (hd : 1 ≤ ex_d E) {post : gx_S → Prop} (hQ : ex_Q E = va_Qv post (gx_B (ex_Z E)) (gx_A (ex_Z E))) {u : gx_S} {v0 : Nat} {v1 : Nat} {v2 : Int32} (h : ((v2 < 0 → post u) ∧ (¬ v2 < 0 → (gx_isO v0 2 ∧ (gx_isR (gx_r u v0 2) .int ∧ vp_in v2 (gx_len (gx_r u v0 2)) ∧ (gx_isO v1 0 ∧ S_X0_add u v1 (((gx_a u (gx_r u v0 2) v2.toNatClampNeg).toUInt32 >>> ((8 : Int32).toUInt32 &&& Int32.toUInt32 31)).toInt32) (fun (u5 : gx_S) => (gx_isR (gx_r u5 v0 2) .int ∧ vp_in v2 (gx_len (gx_r u5 v0 2)) ∧ (S_X0_add u5 v1 (gx_a u5 (gx_r u5 v0 2) v2.toNatClampNeg) (fun (u8 : gx_S) => (∀ x9 : Int32, x9 = v2 + (-1) → J_X2_write_7 E v0 v1 x9 u8))))))))))) : gx_Wc E 3 7 [(0, .ref (ex_ad E v0)), (1, .ref (ex_ad E v1)), (2, .int v2)] [] u := by
  refine gx_iload_n X (j := 2) dX2_write_7 rfl rfl ?_
  refine gx_if_lt X (tgt := 40) dX2_write_8 (by decide) (fun c10 => ?_) (fun c10 => ?_)
  · replace h := h.1 c10
    exact gx_vret X hQ h dX2_write_40
  · replace h := h.2 c10
    refine gx_aload_n X (j := 1) dX2_write_11 rfl rfl ?_
    refine gx_aload_n X (j := 0) dX2_write_12 rfl rfl ?_
    obtain ⟨k1, h⟩ := h
    refine gx_get X k1 rfl iwX2 2 (by decide) mw_93 (v := .ref (ex_ad E (gx_r u v0 2))) rfl dX2_write_13 ?_
    refine gx_iload_n X (j := 2) dX2_write_16 rfl rfl ?_
    obtain ⟨k2, h⟩ := h
    obtain ⟨k3, h⟩ := h
    refine gx_iald X k2 k3 dX2_write_17 ?_
    refine gx_bipush X (v := 8) dX2_write_18 (by decide) ?_
    refine gx_iushr X (v := ((gx_a u (gx_r u v0 2) v2.toNatClampNeg).toUInt32 >>> ((8 : Int32).toUInt32 &&& Int32.toUInt32 31)).toInt32) dX2_write_20 rfl ?_
    obtain ⟨k4, h⟩ := h
    refine gx_kv (gx_rV X (c_X0_add h) (Nat.le_trans (by decide) hd) (Nat.le_trans (by decide) (Nat.mul_le_mul_left 40 hd)) k4 rfl mw_421 mw_136 mw_137 mw_2 mw_138 hyX0_add (As := [.int (((gx_a u (gx_r u v0 2) v2.toNatClampNeg).toUInt32 >>> ((8 : Int32).toUInt32 &&& Int32.toUInt32 31)).toInt32)]) (rest := []) rfl rfl (Nat.le_of_ble_eq_true rfl) dX2_write_21) (fun u5 h => ?_)
    refine gx_aload_n X (j := 1) dX2_write_24 rfl rfl ?_
    refine gx_aload_n X (j := 0) dX2_write_25 rfl rfl ?_
    refine gx_get X k1 rfl iwX2 2 (by decide) mw_93 (v := .ref (ex_ad E (gx_r u5 v0 2))) rfl dX2_write_26 ?_
    refine gx_iload_n X (j := 2) dX2_write_29 rfl rfl ?_
    obtain ⟨k6, h⟩ := h
    obtain ⟨k7, h⟩ := h
    refine gx_iald X k6 k7 dX2_write_30 ?_
    refine gx_kv (gx_rV X (c_X0_add h) (Nat.le_trans (by decide) hd) (Nat.le_trans (by decide) (Nat.mul_le_mul_left 40 hd)) k4 rfl mw_421 mw_136 mw_137 mw_2 mw_138 hyX0_add (As := [.int (gx_a u5 (gx_r u5 v0 2) v2.toNatClampNeg)]) (rest := []) rfl rfl (Nat.le_of_ble_eq_true rfl) dX2_write_31) (fun u8 h => ?_)
    obtain ⟨x9, ex9⟩ : ∃ y : Int32, y = v2 + (-1) := ⟨_, rfl⟩
    replace h := h x9 ex9
    refine gx_iinc X (v := x9) (lv' := [(2, .int x9), (0, .ref (ex_ad E v0)), (1, .ref (ex_ad E v1))]) dX2_write_34 (j := 2) rfl (by rw [ex9]; rfl) (by decide) rfl ?_
    refine gx_goto X (tgt := 7) dX2_write_37 (by decide) ?_
    exact gx_sub [1, 2, 0] rfl h
theorem and128 : ∀ c, c < 256 → ((nI c &&& (128 : Int32)) = 0 ↔ c < 128) := by decide +kernel
theorem and1_ : ∀ c, c < 256 → ((nI c &&& (1 : Int32)) = 0 ↔ c % 2 = 0) := by decide +kernel
def canT (T : List Nat) : Bool := decide (T.length = 128) && (decide (128 ≤ ch T 64) && decide (ch T 127 % 2 = 1))
theorem i_X2_canTake {u : gx_S} {o : Nat} {T : List Nat} {post : Int32 → gx_S → Prop} (hT : byL u 1 T) (h : post (b2 (canT T)) u) : S_X2_canTake u o 1 post := by
  have hT2 := hT.2.2.2.2.1
  unfold canT at h
  refine ⟨hT.1, i_X0_size hT ⟨fun q => ?_, fun q => ?_⟩⟩
  · rw [decide_eq_false (fun e => q (by rw [e]; rfl))] at h; exact h
  · have q2 : T.length = 128 := (nI_eq (b := 128) (by omega) (by omega)).mp q
    have c1 : ch T 64 < 256 := ch_lt hT.2.2.2.2.2.1 (by omega)
    have c2 : ch T 127 < 256 := ch_lt hT.2.2.2.2.2.1 (by omega)
    rw [decide_eq_true q2, Bool.true_and] at h
    refine i_X0_at (j := 64) hT (by omega) ?_
    rw [cI_lo c1, and128 _ c1]
    refine ⟨fun z => ?_, fun z => i_X0_at (j := 127) hT (by omega) ?_⟩
    · rw [decide_eq_false (by omega)] at h; exact h
    · rw [decide_eq_true (by omega), Bool.true_and] at h
      rw [cI_lo c2, and1_ _ c2]
      refine ⟨fun z2 => ?_, fun z2 => ?_⟩
      · rw [decide_eq_false (by omega)] at h; exact h
      · rw [decide_eq_true (by omega)] at h; exact h
theorem i_X2_take {u : gx_S} {T : List Nat} {post : gx_S → Prop} (hf : cfix u) (hT : byL u 1 T) (hl : T.length = 128) (h : ∀ u', exA [17, 18] u u' → (∀ i, i < 32 → gx_a u' 17 i = dgT T 0 i) → (∀ i, i < 32 → gx_a u' 18 i = dgT T 64 i) → post u') : S_X2_take u 8 1 post := by
  unfold S_X2_take
  rw [show gx_r u 8 0 = 17 from hf 8 0 (by decide)]
  refine ⟨isO_x 8 2 (by decide), T, 0, hT, by omega, nI_0.symm, isA17, rfl, by rw [hf 1 0 (by decide)]; decide, ?_⟩
  intro u2 hx2 hd2
  have hf2 := exA_cfix hx2 hf
  rw [show gx_r u2 8 1 = 18 from hf2 8 1 (by decide)]
  refine ⟨T, 64, exA_byL hx2 hT (by rw [hf 1 0 (by decide)]; decide), by omega, rfl, isA18, rfl, by rw [hf2 1 0 (by decide)]; decide, ?_⟩
  intro u3 hx3 hd3
  refine h u3 (exA_tr (exA_wk hx2 (by simp)) (exA_wk hx3 (by simp))) (fun i hi => ?_) hd3
  rw [hx3.2.2.2 17 (by decide)]; exact hd2 i hi
def S_X2_bringBaseBelowModulus (u : gx_S) (v0 : Nat) (post : gx_S → Prop) : Prop := v0 = 8 ∧ cfix u ∧ okD (gx_a u 17) 32 ∧ okD (gx_a u 18) 32 ∧ 32768 ≤ dv (gx_a u 18 31) ∧ ∀ u', exA [17, 19, 20] u u' → okD (gx_a u' 17) 32 → okD (gx_a u' 19) 32 → vA (gx_a u' 17) 32 = vA (gx_a u 17) 32 % vA (gx_a u 18) 32 → vA (gx_a u' 19) 32 = vA (gx_a u 17) 32 % vA (gx_a u 18) 32 → post u'
theorem lp2_X2_bring {E : gx_E} (X : gx_X E cX2_bringBaseBelowModulus 2 RX2 none) (hd : 3 ≤ ex_d E) {post : gx_S → Prop} (hQ : ex_Q E = va_Qv post (gx_B (ex_Z E)) (gx_A (ex_Z E))) {u0 : gx_S} {V : Nat} (hf0 : cfix u0) (hh : ∀ u', exA [17, 19, 20] u0 u' → okD (gx_a u' 17) 32 → okD (gx_a u' 19) 32 → vA (gx_a u' 17) 32 = V → vA (gx_a u' 19) 32 = V → post u') :
    ∀ (n i : Nat) (u : gx_S), 32 - i = n → i ≤ 32 → exA [17, 19, 20] u0 u → okD (gx_a u 19) 32 → vA (gx_a u 19) 32 = V → (∀ j, j < i → gx_a u 17 j = gx_a u 19 j) → J_X2_bringBaseBelowModulus_42 E 8 (nI i) u := by
  intro n
  induction n with
  | zero =>
    intro i u hn hi hx hR hv hc
    exact w_X2_bringBaseBelowModulus_42 X hd hQ ⟨fun _ => hh u hx (fun j hj => by rw [hc j (by omega)]; exact hR j hj) hR (by rw [← hv]; exact vA_cg 32 (fun j hj => hc j (by omega))) hv, fun q => absurd (nI_le (a := 32) (by omega) (by omega)) q⟩
  | succ n ih =>
    intro i u hn hi hx hR hv hc
    have e2 : gx_r u 8 2 = 19 := (exA_r hx 8 2).trans (hf0 8 2 (by decide))
    have e0 : gx_r u 8 0 = 17 := (exA_r hx 8 0).trans (hf0 8 0 (by decide))
    refine w_X2_bringBaseBelowModulus_42 X hd hQ ⟨fun q => absurd q (nI_ge (b := 32) (by omega) (by omega)), fun _ => ?_⟩
    rw [e2, e0]
    refine ⟨isO_x 8 2 (by decide), isA19.r, in32 rfl (by omega), isA17, in32 rfl (by omega), ?_⟩
    rintro u6 rfl x7 rfl
    rw [nI_1, nI_clamp (by omega)]
    refine ih (i + 1) _ (by omega) (by omega) (exA_tr hx (exA_pa _ _ (by simp))) ?_ ?_ (fun j hj => ?_)
    · rw [gx_a_pa, if_neg (by decide)]; exact hR
    · rw [gx_a_pa, if_neg (by decide)]; exact hv
    · rw [gx_a_pa, if_pos rfl, gx_a_pa, if_neg (by decide)]
      by_cases e : j = i
      · rw [e, pk_us]
      · rw [pk_un e]; exact hc j (by omega)
theorem vA_zero {a : Nat → Int32} : ∀ n, (∀ j, j < n → a j = 0) → vA a n = 0
  | 0, _ => rfl
  | n + 1, h => by
    rw [vA_s, vA_zero n (fun j hj => h j (by omega)), h n (by omega), show dv 0 = 0 by decide, Nat.zero_mul]
theorem lp1_X2_bring {E : gx_E} (X : gx_X E cX2_bringBaseBelowModulus 2 RX2 none) (hd : 3 ≤ ex_d E) {post : gx_S → Prop} (hQ : ex_Q E = va_Qv post (gx_B (ex_Z E)) (gx_A (ex_Z E))) {u0 : gx_S} (hf0 : cfix u0) (hB : okD (gx_a u0 17) 32) (hM : okD (gx_a u0 18) 32) (hm : 32768 ≤ dv (gx_a u0 18 31)) (hh : ∀ u', exA [17, 19, 20] u0 u' → okD (gx_a u' 17) 32 → okD (gx_a u' 19) 32 → vA (gx_a u' 17) 32 = vA (gx_a u0 17) 32 % vA (gx_a u0 18) 32 → vA (gx_a u' 19) 32 = vA (gx_a u0 17) 32 % vA (gx_a u0 18) 32 → post u') :
    ∀ (n i : Nat) (u : gx_S), 32 - i = n → i ≤ 32 → exA [20] u0 u → (∀ j, j < i → gx_a u 20 j = gx_a u0 17 j) → (∀ j, j < i → gx_a u 20 (32 + j) = 0) → J_X2_bringBaseBelowModulus_2 E 8 (nI i) u := by
  intro n
  induction n with
  | zero =>
    intro i u hn hi hx h1 h2
    have ei : i = 32 := by omega
    subst ei
    have e1 : gx_a u 18 = gx_a u0 18 := hx.2.2.2 18 (by decide)
    have z : vA (sl (gx_a u 20) 32) 32 = 0 := vA_zero 32 (fun j hj => h2 j hj)
    have v64 : vA (gx_a u 20) 64 = vA (gx_a u0 17) 32 := by
      rw [show (64 : Nat) = 32 + 32 from rfl, vA_sl, z, Nat.mul_zero, Nat.add_zero]
      exact vA_cg 32 h1
    refine w_X2_bringBaseBelowModulus_2 X hd hQ ⟨fun _ => ⟨isO_x 8 2 (by decide), rfl, exA_cfix hx hf0, ?_, by rw [e1]; exact hM, by rw [e1]; exact hm, ?_, ?_⟩, fun q => absurd (nI_le (a := 32) (by omega) (by omega)) q⟩
    · intro j hj
      by_cases e : j < 32
      · rw [h1 j e]; exact hB j e
      · have := h2 (j - 32) (by omega)
        rw [show 32 + (j - 32) = j by omega] at this
        rw [this]; decide
    · rw [z, e1]; exact M_pos hm
    · intro u' hx' hok hv
      rw [v64, e1] at hv
      exact lp2_X2_bring X hd hQ hf0 hh 32 0 u' (by omega) (by omega) (exA_tr (exA_wk hx (by simp)) (exA_wk hx' (by simp))) hok hv (fun j hj => by omega)
  | succ n ih =>
    intro i u hn hi hx h1 h2
    have e3 : gx_r u 8 3 = 20 := (exA_r hx 8 3).trans (hf0 8 3 (by decide))
    have e0 : gx_r u 8 0 = 17 := (exA_r hx 8 0).trans (hf0 8 0 (by decide))
    have ea : gx_a u 17 = gx_a u0 17 := hx.2.2.2 17 (by decide)
    refine w_X2_bringBaseBelowModulus_2 X hd hQ ⟨fun q => absurd q (nI_ge (b := 32) (by omega) (by omega)), fun _ => ?_⟩
    rw [e3, e0, ea]
    refine ⟨isO_x 8 2 (by decide), isA17.r, in32 rfl (by omega), isA20, in20 (by omega), ?_⟩
    rintro u8 rfl
    rw [gx_r_pa, e3, show (32 : Int32) = nI 32 from rfl, nI_add]
    refine ⟨isA20, in20 (by omega), ?_⟩
    rintro u11 rfl x12 rfl
    rw [nI_1, nI_clamp (by omega), nI_clamp (by omega)]
    refine ih (i + 1) _ (by omega) (by omega) (exA_tr hx (exA_tr (exA_pa _ _ (by simp)) (exA_pa _ _ (by simp)))) (fun j hj => ?_) (fun j hj => ?_)
    · rw [gx_a_pa, if_pos rfl, pk_un (by omega), gx_a_pa, if_pos rfl]
      by_cases e : j = i
      · rw [e, pk_us]
      · rw [pk_un e]; exact h1 j (by omega)
    · rw [gx_a_pa, if_pos rfl]
      by_cases e : j = i
      · rw [e, pk_us]
      · rw [pk_un (by omega), gx_a_pa, if_pos rfl, pk_un (by omega)]; exact h2 j (by omega)
theorem w_X2_bringBaseBelowModulus {E : gx_E} (X : gx_X E cX2_bringBaseBelowModulus 2 RX2 none) (hd : 3 ≤ ex_d E) {post : gx_S → Prop} (hQ : ex_Q E = va_Qv post (gx_B (ex_Z E)) (gx_A (ex_Z E))) {u : gx_S} {v0 : Nat} (h : S_X2_bringBaseBelowModulus u v0 post) : gx_Wc E 2 0 [(0, .ref (ex_ad E v0))] [] u := by
  obtain ⟨rfl, hf, hB, hM, hm, hh⟩ := h
  exact w_X2_bringBaseBelowModulus_0 X hd hQ (lp1_X2_bring X hd hQ hf hB hM hm hh 32 0 u (by omega) (by omega) (exA_rf _ _) (fun j hj => by omega) (fun j hj => by omega))
theorem c_X2_bringBaseBelowModulus {l : Launch} {Z : gx_Z} {u : gx_S} {v0 : Nat} {post : gx_S → Prop} (h : S_X2_bringBaseBelowModulus u v0 post) : Met l yX2_bringBaseBelowModulus (Cond.code yX2_bringBaseBelowModulus cX2_bringBaseBelowModulus 2 none :: gx_TB) (gx_rm 3) (gx_Pre Z u [.ref (Z.2.1 v0)]) (va_Qv post (gx_B Z) (gx_A Z)) 0 0 (gx_A Z) := by
  refine gx_met (by decide +kernel) (Nat.le_of_ble_eq_true rfl) ?_
  intro E X hZ hQ hD hL
  subst hZ
  exact w_X2_bringBaseBelowModulus X (Nat.le_of_eq hD.symm) hQ h
-- PlainSeal$Modular.raise()V
theorem dX2_raise_0 : decode cX2_raise 0 = .ok (.aload_n 0, 1) := by decide +kernel
theorem dX2_raise_1 : decode cX2_raise 1 = .ok (.invokevirtual 43, 3) := by decide +kernel
theorem dX2_raise_4 : decode cX2_raise 4 = .ok (.iconst 0, 1) := by decide +kernel
theorem dX2_raise_5 : decode cX2_raise 5 = .ok (.istore_n 1, 1) := by decide +kernel
theorem dX2_raise_6 : decode cX2_raise 6 = .ok (.iload_n 1, 1) := by decide +kernel
theorem dX2_raise_7 : decode cX2_raise 7 = .ok (.bipush 16, 2) := by decide +kernel
theorem dX2_raise_9 : decode cX2_raise 9 = .ok (.if_icmp .ge 21, 3) := by decide +kernel
theorem dX2_raise_12 : decode cX2_raise 12 = .ok (.aload_n 0, 1) := by decide +kernel
theorem dX2_raise_13 : decode cX2_raise 13 = .ok (.aload_n 0, 1) := by decide +kernel
theorem dX2_raise_14 : decode cX2_raise 14 = .ok (.getfield 16, 3) := by decide +kernel
theorem dX2_raise_17 : decode cX2_raise 17 = .ok (.invokevirtual 46, 3) := by decide +kernel
theorem dX2_raise_20 : decode cX2_raise 20 = .ok (.aload_n 0, 1) := by decide +kernel
theorem dX2_raise_21 : decode cX2_raise 21 = .ok (.invokevirtual 50, 3) := by decide +kernel
theorem dX2_raise_24 : decode cX2_raise 24 = .ok (.iinc 1 1, 3) := by decide +kernel
theorem dX2_raise_27 : decode cX2_raise 27 = .ok (.goto (-21), 3) := by decide +kernel
theorem dX2_raise_30 : decode cX2_raise 30 = .ok (.aload_n 0, 1) := by decide +kernel
theorem dX2_raise_31 : decode cX2_raise 31 = .ok (.aload_n 0, 1) := by decide +kernel
theorem dX2_raise_32 : decode cX2_raise 32 = .ok (.getfield 9, 3) := by decide +kernel
theorem dX2_raise_35 : decode cX2_raise 35 = .ok (.invokevirtual 46, 3) := by decide +kernel
theorem dX2_raise_38 : decode cX2_raise 38 = .ok (.aload_n 0, 1) := by decide +kernel
theorem dX2_raise_39 : decode cX2_raise 39 = .ok (.invokevirtual 50, 3) := by decide +kernel
theorem dX2_raise_42 : decode cX2_raise 42 = .ok (.return_, 1) := by decide +kernel
theorem hyX2_raise : yX2_raise.cls ≠ "java/lang/invoke/MethodHandle" ∧ yX2_raise.cls ≠ "java/lang/invoke/VarHandle" ∧ (parseMethodDescriptor yX2_raise.desc).map (fun d => d.parameters.length) = some 0 := by decide +kernel
abbrev J_X2_raise_6 (E : gx_E) (v0 : Nat) (v1 : Int32) (u : gx_S) : Prop := gx_Wc E 2 6 [(0, .ref (ex_ad E v0)), (1, .int v1)] [] u
set_option maxHeartbeats 4000000 in
set_option maxRecDepth 100000 in
theorem w_X2_raise_0 {E : gx_E} (X : gx_X E cX2_raise 2 RX2 none) (hd : 4 ≤ ex_d E) {post : gx_S → Prop} (hQ : ex_Q E = va_Qv post (gx_B (ex_Z E)) (gx_A (ex_Z E))) {u : gx_S} {v0 : Nat} (h : (gx_isO v0 2 ∧ S_X2_bringBaseBelowModulus u v0 (fun (u2 : gx_S) => J_X2_raise_6 E v0 (0 : Int32) u2))) : gx_Wc E 2 0 [(0, .ref (ex_ad E v0))] [] u := by
  refine gx_aload_n X (j := 0) dX2_raise_0 rfl rfl ?_
  obtain ⟨k1, h⟩ := h
  refine gx_kv (gx_rV X (c_X2_bringBaseBelowModulus h) (Nat.le_trans (by decide) hd) (Nat.le_trans (by decide) (Nat.mul_le_mul_left 40 hd)) k1 rfl mw_387 mw_389 mp_5 mw_6 mw_390 hyX2_bringBaseBelowModulus (As := []) (rest := []) rfl rfl (Nat.le_of_ble_eq_true rfl) dX2_raise_1) (fun u2 h => ?_)
  refine gx_iconst X (v := 0) dX2_raise_4 (by decide) ?_
  refine gx_istore_n X (lv' := [(1, .int (0 : Int32)), (0, .ref (ex_ad E v0))]) dX2_raise_5 rfl (by decide) rfl ?_
  exact gx_sub [1, 0] rfl h
set_option maxHeartbeats 4000000 in
set_option maxRecDepth 100000 in
theorem w_X2_raise_6 {E : gx_E} (X : gx_X E cX2_raise 2 RX2 none) (hd : 4 ≤ ex_d E) {post : gx_S → Prop} (hQ : ex_Q E = va_Qv post (gx_B (ex_Z E)) (gx_A (ex_Z E))) {u : gx_S} {v0 : Nat} {v1 : Int32} (h : (((16 : Int32) ≤ v1 → (gx_isO v0 2 ∧ (S_X2_multiplyRestBy u v0 (gx_r u v0 0) (fun (u2 : gx_S) => (S_X2_divideProduct u2 v0 (fun (u3 : gx_S) => post u3)))))) ∧ (¬ (16 : Int32) ≤ v1 → (gx_isO v0 2 ∧ (S_X2_multiplyRestBy u v0 (gx_r u v0 2) (fun (u5 : gx_S) => (S_X2_divideProduct u5 v0 (fun (u6 : gx_S) => (∀ x7 : Int32, x7 = v1 + 1 → J_X2_raise_6 E v0 x7 u6))))))))) : gx_Wc E 2 6 [(0, .ref (ex_ad E v0)), (1, .int v1)] [] u := by
  refine gx_iload_n X (j := 1) dX2_raise_6 rfl rfl ?_
  refine gx_bipush X (v := 16) dX2_raise_7 (by decide) ?_
  refine gx_icmp_ge X (tgt := 30) dX2_raise_9 (by decide) (fun c8 => ?_) (fun c8 => ?_)
  · replace h := h.1 c8
    refine gx_aload_n X (j := 0) dX2_raise_30 rfl rfl ?_
    refine gx_aload_n X (j := 0) dX2_raise_31 rfl rfl ?_
    obtain ⟨k1, h⟩ := h
    refine gx_get X k1 rfl iwX2 0 (by decide) mw_91 (v := .ref (ex_ad E (gx_r u v0 0))) rfl dX2_raise_32 ?_
    refine gx_kv (gx_rV X (c_X2_multiplyRestBy h) (Nat.le_trans (by decide) hd) (Nat.le_trans (by decide) (Nat.mul_le_mul_left 40 hd)) k1 rfl mw_412 mw_414 mp_10 mw_6 mw_415 hyX2_multiplyRestBy (As := [.ref (ex_ad E (gx_r u v0 0))]) (rest := []) rfl rfl (Nat.le_of_ble_eq_true rfl) dX2_raise_35) (fun u2 h => ?_)
    refine gx_aload_n X (j := 0) dX2_raise_38 rfl rfl ?_
    refine gx_kv (gx_rV X (c_X2_divideProduct h) (Nat.le_trans (by decide) hd) (Nat.le_trans (by decide) (Nat.mul_le_mul_left 40 hd)) k1 rfl mw_391 mw_393 mp_6 mw_6 mw_394 hyX2_divideProduct (As := []) (rest := []) rfl rfl (Nat.le_of_ble_eq_true rfl) dX2_raise_39) (fun u3 h => ?_)
    exact gx_vret X hQ h dX2_raise_42
  · replace h := h.2 c8
    refine gx_aload_n X (j := 0) dX2_raise_12 rfl rfl ?_
    refine gx_aload_n X (j := 0) dX2_raise_13 rfl rfl ?_
    obtain ⟨k4, h⟩ := h
    refine gx_get X k4 rfl iwX2 2 (by decide) mw_93 (v := .ref (ex_ad E (gx_r u v0 2))) rfl dX2_raise_14 ?_
    refine gx_kv (gx_rV X (c_X2_multiplyRestBy h) (Nat.le_trans (by decide) hd) (Nat.le_trans (by decide) (Nat.mul_le_mul_left 40 hd)) k4 rfl mw_412 mw_414 mp_10 mw_6 mw_415 hyX2_multiplyRestBy (As := [.ref (ex_ad E (gx_r u v0 2))]) (rest := []) rfl rfl (Nat.le_of_ble_eq_true rfl) dX2_raise_17) (fun u5 h => ?_)
    refine gx_aload_n X (j := 0) dX2_raise_20 rfl rfl ?_
    refine gx_kv (gx_rV X (c_X2_divideProduct h) (Nat.le_trans (by decide) hd) (Nat.le_trans (by decide) (Nat.mul_le_mul_left 40 hd)) k4 rfl mw_391 mw_393 mp_6 mw_6 mw_394 hyX2_divideProduct (As := []) (rest := []) rfl rfl (Nat.le_of_ble_eq_true rfl) dX2_raise_21) (fun u6 h => ?_)
    obtain ⟨x7, ex7⟩ : ∃ y : Int32, y = v1 + 1 := ⟨_, rfl⟩
    replace h := h x7 ex7
    refine gx_iinc X (v := x7) (lv' := [(1, .int x7), (0, .ref (ex_ad E v0))]) dX2_raise_24 (j := 1) rfl (by rw [ex7]; rfl) (by decide) rfl ?_
    refine gx_goto X (tgt := 6) dX2_raise_27 (by decide) ?_
    exact gx_sub [1, 0] rfl h
theorem up_lt {P : Nat → Int32} {r o Mv : Nat} (h : vA P 64 = r * o) (hr : r < Mv) (ho : o < 65536 ^ 32) : vA (sl P 32) 32 < Mv := by
  rw [show (64 : Nat) = 32 + 32 from rfl, vA_sl] at h
  have h1 : 65536 ^ 32 * vA (sl P 32) 32 ≤ r * o := by omega
  have h2 : r * o ≤ r * 65536 ^ 32 := Nat.mul_le_mul_left r (by omega)
  have h3 : 65536 ^ 32 * vA (sl P 32) 32 ≤ 65536 ^ 32 * r := by rw [Nat.mul_comm _ r]; omega
  have := Nat.le_of_mul_le_mul_left h3 (Nat.pow_pos (by omega))
  omega
def S_X2_raise (u : gx_S) (v0 : Nat) (post : gx_S → Prop) : Prop := v0 = 8 ∧ cfix u ∧ okD (gx_a u 17) 32 ∧ okD (gx_a u 18) 32 ∧ 32768 ≤ dv (gx_a u 18 31) ∧ ∀ u', exA [17, 19, 20] u u' → okD (gx_a u' 19) 32 → vA (gx_a u' 19) 32 = vA (gx_a u 17) 32 ^ 65537 % vA (gx_a u 18) 32 → post u'
theorem pw_s (b k : Nat) : b ^ (2 ^ (k + 1)) = b ^ 2 ^ k * b ^ 2 ^ k := by
  rw [Nat.pow_succ, Nat.mul_comm, Nat.two_mul, Nat.pow_add]
theorem lp_X2_raise {E : gx_E} (X : gx_X E cX2_raise 2 RX2 none) (hd : 4 ≤ ex_d E) {post : gx_S → Prop} (hQ : ex_Q E = va_Qv post (gx_B (ex_Z E)) (gx_A (ex_Z E))) {u0 : gx_S} {b : Nat} (hf0 : cfix u0) (hM : okD (gx_a u0 18) 32) (hm : 32768 ≤ dv (gx_a u0 18 31)) (hh : ∀ u', exA [17, 19, 20] u0 u' → okD (gx_a u' 19) 32 → vA (gx_a u' 19) 32 = b ^ 65537 % vA (gx_a u0 18) 32 → post u') :
    ∀ (n i : Nat) (u : gx_S), 16 - i = n → i ≤ 16 → exA [17, 19, 20] u0 u → okD (gx_a u 17) 32 → okD (gx_a u 19) 32 → vA (gx_a u 17) 32 = b % vA (gx_a u0 18) 32 → vA (gx_a u 19) 32 = b ^ 2 ^ i % vA (gx_a u0 18) 32 → J_X2_raise_6 E 8 (nI i) u := by
  have hpos := M_pos hm
  intro n
  induction n with
  | zero =>
    intro i u hn hi hx hB hR hvB hvR
    have ei : i = 16 := by omega
    subst ei
    have hf := exA_cfix hx hf0
    have e0 : gx_r u 8 0 = 17 := hf 8 0 (by decide)
    have e1 : gx_a u 18 = gx_a u0 18 := hx.2.2.2 18 (by decide)
    refine w_X2_raise_6 X hd hQ ⟨fun _ => ?_, fun q => absurd (nI_le (a := 16) (by omega) (by omega)) q⟩
    rw [e0]
    refine ⟨isO_x 8 2 (by decide), rfl, hf, isA17.r, rfl, by decide, hR, hB, ?_⟩
    intro u2 hx2 hP2 hv2
    have e2 : gx_a u2 18 = gx_a u0 18 := by rw [hx2.2.2.2 18 (by decide)]; exact e1
    refine ⟨rfl, exA_cfix hx2 hf, hP2, by rw [e2]; exact hM, by rw [e2]; exact hm, ?_, ?_⟩
    · rw [e2]
      exact up_lt hv2 (by rw [hvR]; exact Nat.mod_lt _ hpos) (vA_lt 32 hB)
    · intro u3 hx3 hR3 hv3
      refine hh u3 (exA_tr hx (exA_tr (exA_wk hx2 (by simp)) (exA_wk hx3 (by simp)))) hR3 ?_
      rw [hv3, hv2, e2, hvB, hvR, ← Nat.mul_mod, ← Nat.pow_succ]
  | succ n ih =>
    intro i u hn hi hx hB hR hvB hvR
    have hf := exA_cfix hx hf0
    have e0 : gx_r u 8 2 = 19 := hf 8 2 (by decide)
    have e1 : gx_a u 18 = gx_a u0 18 := hx.2.2.2 18 (by decide)
    refine w_X2_raise_6 X hd hQ ⟨fun q => absurd q (nI_ge (b := 16) (by omega) (by omega)), fun _ => ?_⟩
    rw [e0]
    refine ⟨isO_x 8 2 (by decide), rfl, hf, isA19.r, rfl, by decide, hR, hR, ?_⟩
    intro u2 hx2 hP2 hv2
    have e2 : gx_a u2 18 = gx_a u0 18 := by rw [hx2.2.2.2 18 (by decide)]; exact e1
    refine ⟨rfl, exA_cfix hx2 hf, hP2, by rw [e2]; exact hM, by rw [e2]; exact hm, ?_, ?_⟩
    · rw [e2]
      exact up_lt hv2 (by rw [hvR]; exact Nat.mod_lt _ hpos) (vA_lt 32 hR)
    · intro u3 hx3 hR3 hv3 x7 e7
      subst e7
      rw [nI_1]
      have e17 : gx_a u3 17 = gx_a u 17 := by rw [hx3.2.2.2 17 (by decide), hx2.2.2.2 17 (by decide)]
      refine ih (i + 1) u3 (by omega) (by omega) (exA_tr hx (exA_tr (exA_wk hx2 (by simp)) (exA_wk hx3 (by simp)))) (by rw [e17]; exact hB) hR3 (by rw [e17]; exact hvB) ?_
      rw [hv3, hv2, e2, hvR, ← Nat.mul_mod, pw_s]
theorem w_X2_raise {E : gx_E} (X : gx_X E cX2_raise 2 RX2 none) (hd : 4 ≤ ex_d E) {post : gx_S → Prop} (hQ : ex_Q E = va_Qv post (gx_B (ex_Z E)) (gx_A (ex_Z E))) {u : gx_S} {v0 : Nat} (h : S_X2_raise u v0 post) : gx_Wc E 2 0 [(0, .ref (ex_ad E v0))] [] u := by
  obtain ⟨rfl, hf, hB, hM, hm, hh⟩ := h
  refine w_X2_raise_0 X hd hQ ⟨isO_x 8 2 (by decide), rfl, hf, hB, hM, hm, ?_⟩
  intro u2 hx2 hB2 hR2 hvB hvR
  exact lp_X2_raise X hd hQ hf hM hm hh 16 0 u2 (by omega) (by omega) hx2 hB2 hR2 hvB (by rw [Nat.pow_zero, Nat.pow_one]; exact hvR)
theorem c_X2_raise {l : Launch} {Z : gx_Z} {u : gx_S} {v0 : Nat} {post : gx_S → Prop} (h : S_X2_raise u v0 post) : Met l yX2_raise (Cond.code yX2_raise cX2_raise 2 none :: gx_TB) (gx_rm 4) (gx_Pre Z u [.ref (Z.2.1 v0)]) (va_Qv post (gx_B Z) (gx_A Z)) 0 0 (gx_A Z) := by
  refine gx_met (by decide +kernel) (Nat.le_of_ble_eq_true rfl) ?_
  intro E X hZ hQ hD hL
  subst hZ
  exact w_X2_raise X (Nat.le_of_eq hD.symm) hQ h
-- write
def pB (a : Nat → Int32) : Nat → List Nat
  | 0 => []
  | k + 1 => pB a k ++ [dv (a (31 - k)) / 256] ++ [dv (a (31 - k)) % 256]
theorem pB_len (a : Nat → Int32) : ∀ k, (pB a k).length = 2 * k
  | 0 => rfl
  | k + 1 => by rw [pB, len_push, len_push, pB_len a k]; omega
theorem pB_cg {a b : Nat → Int32} (h : ∀ j, j < 32 → a j = b j) : ∀ k, pB a k = pB b k
  | 0 => rfl
  | k + 1 => by rw [pB, pB, pB_cg h k, h (31 - k) (by omega)]
def S_X2_write (u : gx_S) (v0 v1 : Nat) (post : gx_S → Prop) : Prop := v0 = 8 ∧ v1 = 2 ∧ cfix u ∧ okD (gx_a u 19) 32 ∧ ∃ O : List Nat, byL u 2 O ∧ byU u 2 (pB (gx_a u 19) 32) post
theorem lp_X2_write {E : gx_E} (X : gx_X E cX2_write 3 RX2 none) (hd : 1 ≤ ex_d E) {post : gx_S → Prop} (hQ : ex_Q E = va_Qv post (gx_B (ex_Z E)) (gx_A (ex_Z E))) {a : Nat → Int32} (ha : okD a 32) :
    ∀ (n k : Nat) (u : gx_S), 32 - k = n → k ≤ 32 → cfix u → (∀ j, j < 32 → gx_a u 19 j = a j) → byL u 2 (pB a k) → byU u 2 (pB a 32) post → J_X2_write_7 E 8 2 (nI n - 1) u := by
  intro n
  induction n with
  | zero =>
    intro k u hn hk hf hg hO hp
    have ek : k = 32 := by omega
    subst ek
    exact w_X2_write_7 X hd hQ ⟨fun _ => byU_self hO hp, fun q => absurd neg1 q⟩
  | succ n ih =>
    intro k u hn hk hf hg hO hp
    have en : n = 31 - k := by omega
    have ban := ha n (by omega)
    have r2 : gx_r u 2 0 = 10 := hf 2 0 (by decide)
    rw [nI_pred]
    refine w_X2_write_7 X hd hQ ⟨fun q => absurd q (nI_pos (by omega)), fun _ => ?_⟩
    rw [show gx_r u 8 2 = 19 from hf 8 2 (by decide), nI_clamp (by omega), hg n (by omega)]
    have e8 : ((a n).toUInt32 >>> ((8 : Int32).toUInt32 &&& Int32.toUInt32 31)).toInt32.toBitVec.toNat = dv (a n) / 2 ^ 8 := ushr_nat (a n) (k := 8) (by omega)
    refine ⟨isO_x 8 2 (by decide), isA19.r, in32 rfl (by omega), hO.1, i_X0_add hO (by rw [pB_len]; omega) (c := dv (a n) / 256) (by omega) (by rw [byte_of, e8, show dv (a n) / 2 ^ 8 % 256 = dv (a n) / 256 by omega]) (fun f1 hf1 => ?_)⟩
    have hO1 := byL_push hO hf1 (by rw [pB_len]; omega)
    rw [byW_r, show gx_r u 8 2 = 19 from hf 8 2 (by decide), byW_a, r2, if_neg (by decide), hg n (by omega)]
    refine ⟨isA19.r, in32 rfl (by omega), i_X0_add hO1 (by rw [len_push, pB_len]; omega) (c := dv (a n) % 256) (by omega) (byte_of (a n)) (fun f2 hf2 => ?_)⟩
    intro x9 e9
    rw [← Int32.sub_eq_add_neg] at e9
    subst e9
    have hO2 := byL_push hO1 hf2 (by rw [len_push, pB_len]; omega)
    have epb : pB a k ++ [dv (a n) / 256] ++ [dv (a n) % 256] = pB a (k + 1) := by rw [pB, ← en]
    rw [epb] at hO2
    refine ih (k + 1) _ (by omega) (by omega) (fun o k h => hf o k h) (fun j hj => ?_) ?_ (byU_W (byU_W hp))
    · rw [byW_a, byW_r, r2, if_neg (by decide), byW_a, r2, if_neg (by decide)]; exact hg j hj
    · rw [epb]; exact hO2
theorem w_X2_write {E : gx_E} (X : gx_X E cX2_write 3 RX2 none) (hd : 1 ≤ ex_d E) {post : gx_S → Prop} (hQ : ex_Q E = va_Qv post (gx_B (ex_Z E)) (gx_A (ex_Z E))) {u : gx_S} {v0 v1 : Nat} (h : S_X2_write u v0 v1 post) : gx_Wc E 3 0 [(0, .ref (ex_ad E v0)), (1, .ref (ex_ad E v1))] [] u := by
  obtain ⟨rfl, rfl, hf, ha, O, hO, hp⟩ := h
  refine w_X2_write_0 X hd hQ ⟨hO.1, i_X0_clear hO (fun f hf2 => ?_)⟩
  refine lp_X2_write X hd hQ ha 32 0 _ (by omega) (by omega) (fun o k h => hf o k h) (fun j hj => ?_) (byL_W hO hf2 (by simp)) (byU_W hp)
  rw [byW_a, show gx_r u 2 0 = 10 from hf 2 0 (by decide), if_neg (by decide)]
theorem c_X2_write {l : Launch} {Z : gx_Z} {u : gx_S} {v0 : Nat} {v1 : Nat} {post : gx_S → Prop} (h : S_X2_write u v0 v1 post) : Met l yX2_write (Cond.code yX2_write cX2_write 3 none :: gx_TB) (gx_rm 1) (gx_Pre Z u [.ref (Z.2.1 v0), .ref (Z.2.1 v1)]) (va_Qv post (gx_B Z) (gx_A Z)) 0 0 (gx_A Z) := by
  refine gx_met (by decide +kernel) (Nat.le_of_ble_eq_true rfl) ?_
  intro E X hZ hQ hD hL
  subst hZ
  exact w_X2_write X (Nat.le_of_eq hD.symm) hQ h
-- PlainSeal.power()I
theorem dX6_power_0 : decode cX6_power 0 = .ok (.iconst (-1), 1) := by decide +kernel
theorem dX6_power_1 : decode cX6_power 1 = .ok (.istore_n 1, 1) := by decide +kernel
theorem dX6_power_2 : decode cX6_power 2 = .ok (.aload_n 0, 1) := by decide +kernel
theorem dX6_power_3 : decode cX6_power 3 = .ok (.getfield 43, 3) := by decide +kernel
theorem dX6_power_6 : decode cX6_power 6 = .ok (.aload_n 0, 1) := by decide +kernel
theorem dX6_power_7 : decode cX6_power 7 = .ok (.getfield 10, 3) := by decide +kernel
theorem dX6_power_10 : decode cX6_power 10 = .ok (.invokevirtual 105, 3) := by decide +kernel
theorem dX6_power_13 : decode cX6_power 13 = .ok (.ifCond .eq 40, 3) := by decide +kernel
theorem dX6_power_16 : decode cX6_power 16 = .ok (.aload_n 0, 1) := by decide +kernel
theorem dX6_power_17 : decode cX6_power 17 = .ok (.getfield 43, 3) := by decide +kernel
theorem dX6_power_20 : decode cX6_power 20 = .ok (.aload_n 0, 1) := by decide +kernel
theorem dX6_power_21 : decode cX6_power 21 = .ok (.getfield 10, 3) := by decide +kernel
theorem dX6_power_24 : decode cX6_power 24 = .ok (.invokevirtual 109, 3) := by decide +kernel
theorem dX6_power_27 : decode cX6_power 27 = .ok (.aload_n 0, 1) := by decide +kernel
theorem dX6_power_28 : decode cX6_power 28 = .ok (.getfield 43, 3) := by decide +kernel
theorem dX6_power_31 : decode cX6_power 31 = .ok (.invokevirtual 113, 3) := by decide +kernel
theorem dX6_power_34 : decode cX6_power 34 = .ok (.aload_n 0, 1) := by decide +kernel
theorem dX6_power_35 : decode cX6_power 35 = .ok (.getfield 43, 3) := by decide +kernel
theorem dX6_power_38 : decode cX6_power 38 = .ok (.aload_n 0, 1) := by decide +kernel
theorem dX6_power_39 : decode cX6_power 39 = .ok (.getfield 16, 3) := by decide +kernel
theorem dX6_power_42 : decode cX6_power 42 = .ok (.invokevirtual 116, 3) := by decide +kernel
theorem dX6_power_45 : decode cX6_power 45 = .ok (.aload_n 0, 1) := by decide +kernel
theorem dX6_power_46 : decode cX6_power 46 = .ok (.getfield 16, 3) := by decide +kernel
theorem dX6_power_49 : decode cX6_power 49 = .ok (.invokevirtual 47, 3) := by decide +kernel
theorem dX6_power_52 : decode cX6_power 52 = .ok (.istore_n 1, 1) := by decide +kernel
theorem dX6_power_53 : decode cX6_power 53 = .ok (.aload_n 0, 1) := by decide +kernel
theorem dX6_power_54 : decode cX6_power 54 = .ok (.getfield 10, 3) := by decide +kernel
theorem dX6_power_57 : decode cX6_power 57 = .ok (.invokevirtual 62, 3) := by decide +kernel
theorem dX6_power_60 : decode cX6_power 60 = .ok (.iload_n 1, 1) := by decide +kernel
theorem dX6_power_61 : decode cX6_power 61 = .ok (.ireturn, 1) := by decide +kernel
theorem hyX6_power : yX6_power.cls ≠ "java/lang/invoke/MethodHandle" ∧ yX6_power.cls ≠ "java/lang/invoke/VarHandle" ∧ (parseMethodDescriptor yX6_power.desc).map (fun d => d.parameters.length) = some 0 := by decide +kernel
def S_X6_power (u : gx_S) (v0 : Nat) (post : Int32 → gx_S → Prop) : Prop := (gx_isO v0 5 ∧ (gx_isO (gx_r u v0 5) 2 ∧ S_X2_canTake u (gx_r u v0 5) (gx_r u v0 0) (fun (r4 : Int32) (u3 : gx_S) => ((r4 = 0 → (gx_isO (gx_r u3 v0 0) 0 ∧ S_X0_clear u3 (gx_r u3 v0 0) (fun (u6 : gx_S) => post (-1 : Int32) u6))) ∧ (¬ r4 = 0 → (gx_isO (gx_r u3 v0 5) 2 ∧ S_X2_take u3 (gx_r u3 v0 5) (gx_r u3 v0 0) (fun (u8 : gx_S) => (gx_isO (gx_r u8 v0 5) 2 ∧ S_X2_raise u8 (gx_r u8 v0 5) (fun (u10 : gx_S) => (gx_isO (gx_r u10 v0 5) 2 ∧ S_X2_write u10 (gx_r u10 v0 5) (gx_r u10 v0 1) (fun (u12 : gx_S) => (gx_isO (gx_r u12 v0 1) 0 ∧ S_X0_size u12 (gx_r u12 v0 1) (fun (r15 : Int32) (u14 : gx_S) => (gx_isO (gx_r u14 v0 0) 0 ∧ S_X0_clear u14 (gx_r u14 v0 0) (fun (u17 : gx_S) => post r15 u17)))))))))))))))
set_option maxHeartbeats 4000000 in
set_option maxRecDepth 100000 in
theorem w_X6_power {E : gx_E} (X : gx_X E cX6_power 2 RX6 (some .int)) (hd : 5 ≤ ex_d E) {post : Int32 → gx_S → Prop} (hQ : ex_Q E = va_Qi post (gx_B (ex_Z E)) (gx_A (ex_Z E))) {u : gx_S} {v0 : Nat} (h : S_X6_power u v0 post) : gx_Wc E 2 0 [(0, .ref (ex_ad E v0))] [] u := by
  unfold S_X6_power at h
  refine gx_iconst X (v := -1) dX6_power_0 (by decide) ?_
  refine gx_istore_n X (lv' := [(1, .int (-1 : Int32)), (0, .ref (ex_ad E v0))]) dX6_power_1 rfl (by decide) rfl ?_
  refine gx_aload_n X (j := 1) dX6_power_2 rfl rfl ?_
  obtain ⟨k1, h⟩ := h
  refine gx_get X k1 rfl iwX6 5 (by decide) mw_109 (v := .ref (ex_ad E (gx_r u v0 5))) rfl dX6_power_3 ?_
  refine gx_aload_n X (j := 1) dX6_power_6 rfl rfl ?_
  refine gx_get X k1 rfl iwX6 0 (by decide) mw_104 (v := .ref (ex_ad E (gx_r u v0 0))) rfl dX6_power_7 ?_
  obtain ⟨k2, h⟩ := h
  refine gx_ki (gx_rV X (c_X2_canTake h) (Nat.le_trans (by decide) hd) (Nat.le_trans (by decide) (Nat.mul_le_mul_left 40 hd)) k2 rfl mw_370 mw_371 mw_372 mw_6 mw_373 hyX2_canTake (As := [.ref (ex_ad E (gx_r u v0 0))]) (rest := []) rfl rfl (Nat.le_of_ble_eq_true rfl) dX6_power_10) (fun r4 u3 h => ?_)
  refine gx_if_eq X (tgt := 53) dX6_power_13 (by decide) (fun c18 => ?_) (fun c18 => ?_)
  · replace h := h.1 c18
    refine gx_aload_n X (j := 1) dX6_power_53 rfl rfl ?_
    refine gx_get X k1 rfl iwX6 0 (by decide) mw_104 (v := .ref (ex_ad E (gx_r u3 v0 0))) rfl dX6_power_54 ?_
    obtain ⟨k5, h⟩ := h
    refine gx_kv (gx_rV X (c_X0_clear h) (Nat.le_trans (by decide) hd) (Nat.le_trans (by decide) (Nat.mul_le_mul_left 40 hd)) k5 rfl mw_200 mw_192 mw_193 mw_2 mw_194 hyX0_clear (As := []) (rest := []) rfl rfl (Nat.le_of_ble_eq_true rfl) dX6_power_57) (fun u6 h => ?_)
    refine gx_iload_n X (j := 0) dX6_power_60 rfl rfl ?_
    exact gx_iret X hQ h dX6_power_61
  · replace h := h.2 c18
    refine gx_aload_n X (j := 1) dX6_power_16 rfl rfl ?_
    refine gx_get X k1 rfl iwX6 5 (by decide) mw_109 (v := .ref (ex_ad E (gx_r u3 v0 5))) rfl dX6_power_17 ?_
    refine gx_aload_n X (j := 1) dX6_power_20 rfl rfl ?_
    refine gx_get X k1 rfl iwX6 0 (by decide) mw_104 (v := .ref (ex_ad E (gx_r u3 v0 0))) rfl dX6_power_21 ?_
    obtain ⟨k7, h⟩ := h
    refine gx_kv (gx_rV X (c_X2_take h) (Nat.le_trans (by decide) hd) (Nat.le_trans (by decide) (Nat.mul_le_mul_left 40 hd)) k7 rfl mw_376 mw_377 mw_378 mw_6 mw_379 hyX2_take (As := [.ref (ex_ad E (gx_r u3 v0 0))]) (rest := []) rfl rfl (Nat.le_of_ble_eq_true rfl) dX6_power_24) (fun u8 h => ?_)
    refine gx_aload_n X (j := 1) dX6_power_27 rfl rfl ?_
    refine gx_get X k1 rfl iwX6 5 (by decide) mw_109 (v := .ref (ex_ad E (gx_r u8 v0 5))) rfl dX6_power_28 ?_
    obtain ⟨k9, h⟩ := h
    refine gx_kv (gx_rV X (c_X2_raise h) (Nat.le_trans (by decide) hd) (Nat.le_trans (by decide) (Nat.mul_le_mul_left 40 hd)) k9 rfl mw_383 mw_384 mw_385 mw_6 mw_386 hyX2_raise (As := []) (rest := []) rfl rfl (Nat.le_of_ble_eq_true rfl) dX6_power_31) (fun u10 h => ?_)
    refine gx_aload_n X (j := 1) dX6_power_34 rfl rfl ?_
    refine gx_get X k1 rfl iwX6 5 (by decide) mw_109 (v := .ref (ex_ad E (gx_r u10 v0 5))) rfl dX6_power_35 ?_
    refine gx_aload_n X (j := 1) dX6_power_38 rfl rfl ?_
    refine gx_get X k1 rfl iwX6 1 (by decide) mw_105 (v := .ref (ex_ad E (gx_r u10 v0 1))) rfl dX6_power_39 ?_
    obtain ⟨k11, h⟩ := h
    refine gx_kv (gx_rV X (c_X2_write h) (Nat.le_trans (by decide) hd) (Nat.le_trans (by decide) (Nat.mul_le_mul_left 40 hd)) k11 rfl mw_416 mw_417 mw_418 mw_6 mw_419 hyX2_write (As := [.ref (ex_ad E (gx_r u10 v0 1))]) (rest := []) rfl rfl (Nat.le_of_ble_eq_true rfl) dX6_power_42) (fun u12 h => ?_)
    refine gx_aload_n X (j := 1) dX6_power_45 rfl rfl ?_
    refine gx_get X k1 rfl iwX6 1 (by decide) mw_105 (v := .ref (ex_ad E (gx_r u12 v0 1))) rfl dX6_power_46 ?_
    obtain ⟨k13, h⟩ := h
    refine gx_ki (gx_rV X (c_X0_size h) (Nat.le_trans (by decide) hd) (Nat.le_trans (by decide) (Nat.mul_le_mul_left 40 hd)) k13 rfl mw_127 mw_128 mw_129 mw_2 mw_130 hyX0_size (As := []) (rest := []) rfl rfl (Nat.le_of_ble_eq_true rfl) dX6_power_49) (fun r15 u14 h => ?_)
    refine gx_istore_n X (lv' := [(1, .int r15), (0, .ref (ex_ad E v0))]) dX6_power_52 rfl (by decide) rfl ?_
    refine gx_aload_n X (j := 1) dX6_power_53 rfl rfl ?_
    refine gx_get X k1 rfl iwX6 0 (by decide) mw_104 (v := .ref (ex_ad E (gx_r u14 v0 0))) rfl dX6_power_54 ?_
    obtain ⟨k16, h⟩ := h
    refine gx_kv (gx_rV X (c_X0_clear h) (Nat.le_trans (by decide) hd) (Nat.le_trans (by decide) (Nat.mul_le_mul_left 40 hd)) k16 rfl mw_200 mw_192 mw_193 mw_2 mw_194 hyX0_clear (As := []) (rest := []) rfl rfl (Nat.le_of_ble_eq_true rfl) dX6_power_57) (fun u17 h => ?_)
    refine gx_iload_n X (j := 0) dX6_power_60 rfl rfl ?_
    exact gx_iret X hQ h dX6_power_61
theorem c_X6_power {l : Launch} {Z : gx_Z} {u : gx_S} {v0 : Nat} {post : Int32 → gx_S → Prop} (h : S_X6_power u v0 post) : Met l yX6_power (Cond.code yX6_power cX6_power 2 (some .int) :: gx_TB) (gx_rm 5) (gx_Pre Z u [.ref (Z.2.1 v0)]) (va_Qi post (gx_B Z) (gx_A Z)) 0 0 (gx_A Z) := by
  refine gx_met (by decide +kernel) (Nat.le_of_ble_eq_true rfl) ?_
  intro E X hZ hQ hD hL
  subst hZ
  exact w_X6_power X (Nat.le_of_eq hD.symm) hQ h
theorem okD_dgT {T : List Nat} (h : okL T) (p : Nat) (hp : p + 64 ≤ T.length) : ∀ i, i < 32 → dv (dgT T p i) = ch T (p + 62 - 2 * i) * 256 + ch T (p + 63 - 2 * i) ∧ dv (dgT T p i) < 65536 := by
  intro i hi
  have c1 : ch T (p + 62 - 2 * i) < 256 := ch_lt h (by omega)
  have c2 : ch T (p + 63 - 2 * i) < 256 := ch_lt h (by omega)
  have e : dv (dgT T p i) = ch T (p + 62 - 2 * i) * 256 + ch T (p + 63 - 2 * i) := dv_nI (by omega)
  exact ⟨e, by rw [e]; omega⟩
theorem t_power {u : gx_S} {T O M G : List Nat} {k : Nat} {post : Int32 → gx_S → Prop} (h : cS u T O M k G) (h1 : canT T = true → ∀ r : Nat → Int32, okD r 32 → vA r 32 = vA (dgT T 0) 32 ^ 65537 % vA (dgT T 64) 32 → ∀ v, exC u v → cS v [] (pB r 32) M k G → post 64 v) (h2 : canT T = false → ∀ v, exC u v → cS v [] O M k G → post (-1) v) : S_X6_power u 0 post := by
  have c0 := h.1
  unfold S_X6_power
  rw [show gx_r u 0 5 = 8 from c0 0 5 (by decide), show gx_r u 0 0 = 1 from c0 0 0 (by decide)]
  refine ⟨isO_x 0 5 (by decide), isO_x 8 2 (by decide), i_X2_canTake h.2.1 ⟨fun q => ?_, fun q => ?_⟩⟩
  · rw [b2_0] at q
    rw [show gx_r u 0 0 = 1 from c0 0 0 (by decide)]
    exact ⟨h.2.1.1, t_clear h (fun v hv hs => h2 q v hv hs)⟩
  · have q2 := b2_n0 q
    have hT := h.2.1.2.2.2.2.2.1
    have hc : T.length = 128 ∧ 128 ≤ ch T 64 ∧ ch T 127 % 2 = 1 := by simpa [canT] using q2
    rw [show gx_r u 0 5 = 8 from c0 0 5 (by decide), show gx_r u 0 0 = 1 from c0 0 0 (by decide)]
    refine ⟨isO_x 8 2 (by decide), i_X2_take c0 h.2.1 hc.1 (fun u8 hx8 hb8 hp8 => ?_)⟩
    have s8 := cS_x h hx8 (by decide)
    have ob := okD_dgT hT 0 (by omega)
    have op := okD_dgT hT 64 (by omega)
    rw [show gx_r u8 0 5 = 8 from s8.1.1 0 5 (by decide)]
    refine ⟨isO_x 8 2 (by decide), rfl, s8.1.1, fun i hi => by rw [hb8 i hi]; exact (ob i hi).2, fun i hi => by rw [hp8 i hi]; exact (op i hi).2, ?_, ?_⟩
    · rw [hp8 31 (by omega), (op 31 (by omega)).1]
      have : (64 + 62 - 2 * 31) = 64 := by omega
      rw [this]
      omega
    · intro u10 hx10 hok10 hv10
      rw [vA_cg 32 hb8, vA_cg 32 hp8] at hv10
      have s10 := cS_x s8.1 hx10 (by decide)
      rw [show gx_r u10 0 5 = 8 from s10.1.1 0 5 (by decide), show gx_r u10 0 1 = 2 from s10.1.1 0 1 (by decide)]
      refine ⟨isO_x 8 2 (by decide), rfl, rfl, s10.1.1, hok10, O, s10.1.2.2.1, fun f hf => ?_⟩
      have hl : (pB (gx_a u10 19) 32).length = 64 := pB_len _ 32
      have s := cS_o s10.1 hf (by omega)
      try dsimp only
      rw [show gx_r (byW u10 2 f (pB (gx_a u10 19) 32).length) 0 1 = 2 from s10.1.1 0 1 (by decide)]
      refine ⟨h.2.2.1.1, i_X0_size s.1.2.2.1 ?_⟩
      rw [show gx_r (byW u10 2 f (pB (gx_a u10 19) 32).length) 0 0 = 1 from s10.1.1 0 0 (by decide)]
      refine ⟨h.2.1.1, t_clear s.1 (fun v hv hs => ?_)⟩
      rw [hl]
      exact h1 q2 (gx_a u10 19) hok10 hv10 v (exC_tr s8.2 (exC_tr s10.2 (exC_tr s.2 hv))) hs

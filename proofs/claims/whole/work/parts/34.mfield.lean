-- PlainSealModel.plainBody(Z)I
theorem dX10_plainBody_0 : decode cX10_plainBody 0 = .ok (.aload_n 0, 1) := by decide +kernel
theorem dX10_plainBody_1 : decode cX10_plainBody 1 = .ok (.getfield 146, 3) := by decide +kernel
theorem dX10_plainBody_4 : decode cX10_plainBody 4 = .ok (.ifCond .ne 6, 3) := by decide +kernel
theorem dX10_plainBody_7 : decode cX10_plainBody 7 = .ok (.bipush (-2), 2) := by decide +kernel
theorem dX10_plainBody_9 : decode cX10_plainBody 9 = .ok (.ireturn, 1) := by decide +kernel
theorem dX10_plainBody_10 : decode cX10_plainBody 10 = .ok (.aload_n 0, 1) := by decide +kernel
theorem dX10_plainBody_11 : decode cX10_plainBody 11 = .ok (.iload_n 1, 1) := by decide +kernel
theorem dX10_plainBody_12 : decode cX10_plainBody 12 = .ok (.invokevirtual 169, 3) := by decide +kernel
theorem dX10_plainBody_15 : decode cX10_plainBody 15 = .ok (.aload_n 0, 1) := by decide +kernel
theorem dX10_plainBody_16 : decode cX10_plainBody 16 = .ok (.aload_n 0, 1) := by decide +kernel
theorem dX10_plainBody_17 : decode cX10_plainBody 17 = .ok (.getfield 47, 3) := by decide +kernel
theorem dX10_plainBody_20 : decode cX10_plainBody 20 = .ok (.invokevirtual 173, 3) := by decide +kernel
theorem dX10_plainBody_23 : decode cX10_plainBody 23 = .ok (.ireturn, 1) := by decide +kernel
theorem hyX10_plainBody : yX10_plainBody.cls ≠ "java/lang/invoke/MethodHandle" ∧ yX10_plainBody.cls ≠ "java/lang/invoke/VarHandle" ∧ (parseMethodDescriptor yX10_plainBody.desc).map (fun d => d.parameters.length) = some 1 := by decide +kernel
def S_X10_plainBody (u : gx_S) (v0 : Nat) (v1 : Int32) (post : Int32 → gx_S → Prop) : Prop := (gx_isO v0 9 ∧ ((¬ (gx_i u v0 14) = 0 → (S_X10_bodyPlain u v0 v1 (fun (u2 : gx_S) => (S_X10_tell u2 v0 (gx_r u2 v0 15) (fun (r4 : Int32) (u3 : gx_S) => post r4 u3))))) ∧ ((gx_i u v0 14) = 0 → post (-2 : Int32) u)))
set_option maxHeartbeats 4000000 in
set_option maxRecDepth 100000 in
theorem w_X10_plainBody {E : gx_E} (X : gx_X E cX10_plainBody 2 RX10 (some .int)) (hd : 3 ≤ ex_d E) {post : Int32 → gx_S → Prop} (hQ : ex_Q E = va_Qi post (gx_B (ex_Z E)) (gx_A (ex_Z E))) {u : gx_S} {v0 : Nat} {v1 : Int32} (h : S_X10_plainBody u v0 v1 post) : gx_Wc E 2 0 [(0, .ref (ex_ad E v0)), (1, .int v1)] [] u := by
  unfold S_X10_plainBody at h
  refine gx_aload_n X (j := 0) dX10_plainBody_0 rfl rfl ?_
  obtain ⟨k1, h⟩ := h
  refine gx_get X k1 rfl iwX10 14 (by decide) mw_535 (v := .int (gx_i u v0 14)) rfl dX10_plainBody_1 ?_
  refine gx_if_ne X (tgt := 10) dX10_plainBody_4 (by decide) (fun c5 => ?_) (fun c5 => ?_)
  · replace h := h.1 c5
    refine gx_aload_n X (j := 0) dX10_plainBody_10 rfl rfl ?_
    refine gx_iload_n X (j := 1) dX10_plainBody_11 rfl rfl ?_
    refine gx_kv (gx_rV X (c_X10_bodyPlain h) (Nat.le_trans (by decide) hd) (Nat.le_trans (by decide) (Nat.mul_le_mul_left 40 hd)) k1 rfl mw_653 mw_655 mp_13 mw_7 mw_656 hyX10_bodyPlain (As := [.int v1]) (rest := []) rfl rfl (Nat.le_of_ble_eq_true rfl) dX10_plainBody_12) (fun u2 h => ?_)
    refine gx_aload_n X (j := 0) dX10_plainBody_15 rfl rfl ?_
    refine gx_aload_n X (j := 0) dX10_plainBody_16 rfl rfl ?_
    refine gx_get X k1 rfl iwX10 15 (by decide) mw_536 (v := .ref (ex_ad E (gx_r u2 v0 15))) rfl dX10_plainBody_17 ?_
    refine gx_ki (gx_rV X (c_X10_tell h) (Nat.le_trans (by decide) hd) (Nat.le_trans (by decide) (Nat.mul_le_mul_left 40 hd)) k1 rfl mw_661 mw_663 mp_14 mw_7 mw_664 hyX10_tell (As := [.ref (ex_ad E (gx_r u2 v0 15))]) (rest := []) rfl rfl (Nat.le_of_ble_eq_true rfl) dX10_plainBody_20) (fun r4 u3 h => ?_)
    exact gx_iret X hQ h dX10_plainBody_23
  · replace h := h.2 c5
    refine gx_bipush X (v := -2) dX10_plainBody_7 (by decide) ?_
    exact gx_iret X hQ h dX10_plainBody_9
theorem c_X10_plainBody {l : Launch} {Z : gx_Z} {u : gx_S} {v0 : Nat} {v1 : Int32} {post : Int32 → gx_S → Prop} (h : S_X10_plainBody u v0 v1 post) : Met l yX10_plainBody (Cond.code yX10_plainBody cX10_plainBody 2 (some .int) :: gx_TB) (gx_rm 3) (gx_Pre Z u [.ref (Z.2.1 v0), .int v1]) (va_Qi post (gx_B Z) (gx_A Z)) 0 0 (gx_A Z) := by
  refine gx_met (by decide +kernel) (Nat.le_of_ble_eq_true rfl) ?_
  intro E X hZ hQ hD hL
  subst hZ
  exact w_X10_plainBody X (Nat.le_of_eq hD.symm) hQ h

-- PlainSealModel.feed(IIIII)I
theorem dX10_feed_0 : decode cX10_feed 0 = .ok (.aload_n 0, 1) := by decide +kernel
theorem dX10_feed_1 : decode cX10_feed 1 = .ok (.getfield 95, 3) := by decide +kernel
theorem dX10_feed_4 : decode cX10_feed 4 = .ok (.bipush 20, 2) := by decide +kernel
theorem dX10_feed_6 : decode cX10_feed 6 = .ok (.iadd, 1) := by decide +kernel
theorem dX10_feed_7 : decode cX10_feed 7 = .ok (.sipush 2000, 3) := by decide +kernel
theorem dX10_feed_10 : decode cX10_feed 10 = .ok (.if_icmp .le 6, 3) := by decide +kernel
theorem dX10_feed_13 : decode cX10_feed 13 = .ok (.bipush (-3), 2) := by decide +kernel
theorem dX10_feed_15 : decode cX10_feed 15 = .ok (.ireturn, 1) := by decide +kernel
theorem dX10_feed_16 : decode cX10_feed 16 = .ok (.aload_n 0, 1) := by decide +kernel
theorem dX10_feed_17 : decode cX10_feed 17 = .ok (.iload_n 1, 1) := by decide +kernel
theorem dX10_feed_18 : decode cX10_feed 18 = .ok (.invokevirtual 99, 3) := by decide +kernel
theorem dX10_feed_21 : decode cX10_feed 21 = .ok (.aload_n 0, 1) := by decide +kernel
theorem dX10_feed_22 : decode cX10_feed 22 = .ok (.iload_n 2, 1) := by decide +kernel
theorem dX10_feed_23 : decode cX10_feed 23 = .ok (.invokevirtual 99, 3) := by decide +kernel
theorem dX10_feed_26 : decode cX10_feed 26 = .ok (.aload_n 0, 1) := by decide +kernel
theorem dX10_feed_27 : decode cX10_feed 27 = .ok (.iload_n 3, 1) := by decide +kernel
theorem dX10_feed_28 : decode cX10_feed 28 = .ok (.invokevirtual 99, 3) := by decide +kernel
theorem dX10_feed_31 : decode cX10_feed 31 = .ok (.aload_n 0, 1) := by decide +kernel
theorem dX10_feed_32 : decode cX10_feed 32 = .ok (.iload 4, 2) := by decide +kernel
theorem dX10_feed_34 : decode cX10_feed 34 = .ok (.invokevirtual 99, 3) := by decide +kernel
theorem dX10_feed_37 : decode cX10_feed 37 = .ok (.aload_n 0, 1) := by decide +kernel
theorem dX10_feed_38 : decode cX10_feed 38 = .ok (.iload 5, 2) := by decide +kernel
theorem dX10_feed_40 : decode cX10_feed 40 = .ok (.invokevirtual 99, 3) := by decide +kernel
theorem dX10_feed_43 : decode cX10_feed 43 = .ok (.aload_n 0, 1) := by decide +kernel
theorem dX10_feed_44 : decode cX10_feed 44 = .ok (.getfield 95, 3) := by decide +kernel
theorem dX10_feed_47 : decode cX10_feed 47 = .ok (.ireturn, 1) := by decide +kernel
theorem hyX10_feed : yX10_feed.cls ≠ "java/lang/invoke/MethodHandle" ∧ yX10_feed.cls ≠ "java/lang/invoke/VarHandle" ∧ (parseMethodDescriptor yX10_feed.desc).map (fun d => d.parameters.length) = some 5 := by decide +kernel
def S_X10_feed (u : gx_S) (v0 : Nat) (v1 : Int32) (v2 : Int32) (v3 : Int32) (v4 : Int32) (v5 : Int32) (post : Int32 → gx_S → Prop) : Prop := (gx_isO v0 9 ∧ ((((gx_i u v0 1) + (20 : Int32)) ≤ (2000 : Int32) → (S_X10_four u v0 v1 (fun (u2 : gx_S) => (S_X10_four u2 v0 v2 (fun (u3 : gx_S) => (S_X10_four u3 v0 v3 (fun (u4 : gx_S) => (S_X10_four u4 v0 v4 (fun (u5 : gx_S) => (S_X10_four u5 v0 v5 (fun (u6 : gx_S) => post (gx_i u6 v0 1) u6))))))))))) ∧ (¬ ((gx_i u v0 1) + (20 : Int32)) ≤ (2000 : Int32) → post (-3 : Int32) u)))
set_option maxHeartbeats 4000000 in
set_option maxRecDepth 100000 in
theorem w_X10_feed {E : gx_E} (X : gx_X E cX10_feed 6 RX10 (some .int)) (hd : 1 ≤ ex_d E) {post : Int32 → gx_S → Prop} (hQ : ex_Q E = va_Qi post (gx_B (ex_Z E)) (gx_A (ex_Z E))) {u : gx_S} {v0 : Nat} {v1 : Int32} {v2 : Int32} {v3 : Int32} {v4 : Int32} {v5 : Int32} (h : S_X10_feed u v0 v1 v2 v3 v4 v5 post) : gx_Wc E 6 0 [(0, .ref (ex_ad E v0)), (1, .int v1), (2, .int v2), (3, .int v3), (4, .int v4), (5, .int v5)] [] u := by
  unfold S_X10_feed at h
  refine gx_aload_n X (j := 0) dX10_feed_0 rfl rfl ?_
  obtain ⟨k1, h⟩ := h
  refine gx_get X k1 rfl iwX10 1 (by decide) mw_522 (v := .int (gx_i u v0 1)) rfl dX10_feed_1 ?_
  refine gx_bipush X (v := 20) dX10_feed_4 (by decide) ?_
  refine gx_iadd X dX10_feed_6 ?_
  refine gx_sipush X (v := 2000) dX10_feed_7 (by decide) ?_
  refine gx_icmp_le X (tgt := 16) dX10_feed_10 (by decide) (fun c7 => ?_) (fun c7 => ?_)
  · replace h := h.1 c7
    refine gx_aload_n X (j := 0) dX10_feed_16 rfl rfl ?_
    refine gx_iload_n X (j := 1) dX10_feed_17 rfl rfl ?_
    refine gx_kv (gx_rV X (c_X10_four h) (Nat.le_trans (by decide) hd) (Nat.le_trans (by decide) (Nat.mul_le_mul_left 40 hd)) k1 rfl mw_610 mw_612 mp_11 mw_7 mw_613 hyX10_four (As := [.int v1]) (rest := []) rfl rfl (Nat.le_of_ble_eq_true rfl) dX10_feed_18) (fun u2 h => ?_)
    refine gx_aload_n X (j := 0) dX10_feed_21 rfl rfl ?_
    refine gx_iload_n X (j := 2) dX10_feed_22 rfl rfl ?_
    refine gx_kv (gx_rV X (c_X10_four h) (Nat.le_trans (by decide) hd) (Nat.le_trans (by decide) (Nat.mul_le_mul_left 40 hd)) k1 rfl mw_610 mw_612 mp_11 mw_7 mw_613 hyX10_four (As := [.int v2]) (rest := []) rfl rfl (Nat.le_of_ble_eq_true rfl) dX10_feed_23) (fun u3 h => ?_)
    refine gx_aload_n X (j := 0) dX10_feed_26 rfl rfl ?_
    refine gx_iload_n X (j := 3) dX10_feed_27 rfl rfl ?_
    refine gx_kv (gx_rV X (c_X10_four h) (Nat.le_trans (by decide) hd) (Nat.le_trans (by decide) (Nat.mul_le_mul_left 40 hd)) k1 rfl mw_610 mw_612 mp_11 mw_7 mw_613 hyX10_four (As := [.int v3]) (rest := []) rfl rfl (Nat.le_of_ble_eq_true rfl) dX10_feed_28) (fun u4 h => ?_)
    refine gx_aload_n X (j := 0) dX10_feed_31 rfl rfl ?_
    refine gx_iload X (j := 4) dX10_feed_32 rfl ?_
    refine gx_kv (gx_rV X (c_X10_four h) (Nat.le_trans (by decide) hd) (Nat.le_trans (by decide) (Nat.mul_le_mul_left 40 hd)) k1 rfl mw_610 mw_612 mp_11 mw_7 mw_613 hyX10_four (As := [.int v4]) (rest := []) rfl rfl (Nat.le_of_ble_eq_true rfl) dX10_feed_34) (fun u5 h => ?_)
    refine gx_aload_n X (j := 0) dX10_feed_37 rfl rfl ?_
    refine gx_iload X (j := 5) dX10_feed_38 rfl ?_
    refine gx_kv (gx_rV X (c_X10_four h) (Nat.le_trans (by decide) hd) (Nat.le_trans (by decide) (Nat.mul_le_mul_left 40 hd)) k1 rfl mw_610 mw_612 mp_11 mw_7 mw_613 hyX10_four (As := [.int v5]) (rest := []) rfl rfl (Nat.le_of_ble_eq_true rfl) dX10_feed_40) (fun u6 h => ?_)
    refine gx_aload_n X (j := 0) dX10_feed_43 rfl rfl ?_
    refine gx_get X k1 rfl iwX10 1 (by decide) mw_522 (v := .int (gx_i u6 v0 1)) rfl dX10_feed_44 ?_
    exact gx_iret X hQ h dX10_feed_47
  · replace h := h.2 c7
    refine gx_bipush X (v := -3) dX10_feed_13 (by decide) ?_
    exact gx_iret X hQ h dX10_feed_15
theorem c_X10_feed {l : Launch} {Z : gx_Z} {u : gx_S} {v0 : Nat} {v1 : Int32} {v2 : Int32} {v3 : Int32} {v4 : Int32} {v5 : Int32} {post : Int32 → gx_S → Prop} (h : S_X10_feed u v0 v1 v2 v3 v4 v5 post) : Met l yX10_feed (Cond.code yX10_feed cX10_feed 6 (some .int) :: gx_TB) (gx_rm 1) (gx_Pre Z u [.ref (Z.2.1 v0), .int v1, .int v2, .int v3, .int v4, .int v5]) (va_Qi post (gx_B Z) (gx_A Z)) 0 0 (gx_A Z) := by
  refine gx_met (by decide +kernel) (Nat.le_of_ble_eq_true rfl) ?_
  intro E X hZ hQ hD hL
  subst hZ
  exact w_X10_feed X (Nat.le_of_eq hD.symm) hQ h
-- PlainSealModel.end(I)I
theorem dX10_end_0 : decode cX10_end 0 = .ok (.iload_n 1, 1) := by decide +kernel
theorem dX10_end_1 : decode cX10_end 1 = .ok (.i2l, 1) := by decide +kernel
theorem dX10_end_2 : decode cX10_end 2 = .ok (.lconst 0, 1) := by decide +kernel
theorem dX10_end_3 : decode cX10_end 3 = .ok (.aload_n 0, 1) := by decide +kernel
theorem dX10_end_4 : decode cX10_end 4 = .ok (.getfield 95, 3) := by decide +kernel
theorem dX10_end_7 : decode cX10_end 7 = .ok (.i2l, 1) := by decide +kernel
theorem dX10_end_8 : decode cX10_end 8 = .ok (.invokestatic 102, 3) := by decide +kernel
theorem dX10_end_11 : decode cX10_end 11 = .ok (.ifCond .ne 5, 3) := by decide +kernel
theorem dX10_end_14 : decode cX10_end 14 = .ok (.iconst (-1), 1) := by decide +kernel
theorem dX10_end_15 : decode cX10_end 15 = .ok (.ireturn, 1) := by decide +kernel
theorem dX10_end_16 : decode cX10_end 16 = .ok (.aload_n 0, 1) := by decide +kernel
theorem dX10_end_17 : decode cX10_end 17 = .ok (.iload_n 1, 1) := by decide +kernel
theorem dX10_end_18 : decode cX10_end 18 = .ok (.putfield 95, 3) := by decide +kernel
theorem dX10_end_21 : decode cX10_end 21 = .ok (.iload_n 1, 1) := by decide +kernel
theorem dX10_end_22 : decode cX10_end 22 = .ok (.ireturn, 1) := by decide +kernel
theorem hyX10_end : yX10_end.cls ≠ "java/lang/invoke/MethodHandle" ∧ yX10_end.cls ≠ "java/lang/invoke/VarHandle" ∧ (parseMethodDescriptor yX10_end.desc).map (fun d => d.parameters.length) = some 1 := by decide +kernel
def S_X10_end (u : gx_S) (v0 : Nat) (v1 : Int32) (post : Int32 → gx_S → Prop) : Prop := (gx_isO v0 9 ∧ (S_X10_in u (v1).toInt64 (0 : Int64) ((gx_i u v0 1)).toInt64 (fun (r3 : Int32) (u2 : gx_S) => ((¬ r3 = 0 → (∀ u4 : gx_S, u4 = gx_pi u2 v0 1 v1 → post v1 u4)) ∧ (r3 = 0 → post (-1 : Int32) u2)))))
set_option maxHeartbeats 4000000 in
set_option maxRecDepth 100000 in
theorem w_X10_end {E : gx_E} (X : gx_X E cX10_end 2 RX10 (some .int)) (hd : 1 ≤ ex_d E) {post : Int32 → gx_S → Prop} (hQ : ex_Q E = va_Qi post (gx_B (ex_Z E)) (gx_A (ex_Z E))) {u : gx_S} {v0 : Nat} {v1 : Int32} (h : S_X10_end u v0 v1 post) : gx_Wc E 2 0 [(0, .ref (ex_ad E v0)), (1, .int v1)] [] u := by
  unfold S_X10_end at h
  refine gx_iload_n X (j := 1) dX10_end_0 rfl rfl ?_
  refine gx_i2l X (v := (v1).toInt64) dX10_end_1 rfl ?_
  refine gx_lconst X (v := 0) dX10_end_2 (by decide) ?_
  refine gx_aload_n X (j := 0) dX10_end_3 rfl rfl ?_
  obtain ⟨k1, h⟩ := h
  refine gx_get X k1 rfl iwX10 1 (by decide) mw_522 (v := .int (gx_i u v0 1)) rfl dX10_end_4 ?_
  refine gx_i2l X (v := ((gx_i u v0 1)).toInt64) dX10_end_7 rfl ?_
  refine gx_ki (gx_rS X (c_X10_in h) (Nat.le_trans (by decide) hd) (Nat.le_trans (by decide) (Nat.mul_le_mul_left 40 hd)) mw_618 mw_619 mw_7 mw_620 hyX10_in (As := [.long (v1).toInt64, .long (0 : Int64), .long ((gx_i u v0 1)).toInt64]) (rest := []) rfl rfl (Nat.le_of_ble_eq_true rfl) dX10_end_8) (fun r3 u2 h => ?_)
  refine gx_if_ne X (tgt := 16) dX10_end_11 (by decide) (fun c5 => ?_) (fun c5 => ?_)
  · replace h := h.1 c5
    refine gx_aload_n X (j := 0) dX10_end_16 rfl rfl ?_
    refine gx_iload_n X (j := 1) dX10_end_17 rfl rfl ?_
    refine gx_put X k1 rfl iwX10 tyX10_ok nmX10 1 (by decide) mw_522 rfl rfl rfl (fun _ => rfl) dX10_end_18 ?_
    refine gx_nams (fun u4 eu4 => ?_)
    replace h := h u4 eu4
    refine gx_iload_n X (j := 1) dX10_end_21 rfl rfl ?_
    exact gx_iret X hQ h dX10_end_22
  · replace h := h.2 c5
    refine gx_iconst X (v := -1) dX10_end_14 (by decide) ?_
    exact gx_iret X hQ h dX10_end_15
theorem c_X10_end {l : Launch} {Z : gx_Z} {u : gx_S} {v0 : Nat} {v1 : Int32} {post : Int32 → gx_S → Prop} (h : S_X10_end u v0 v1 post) : Met l yX10_end (Cond.code yX10_end cX10_end 2 (some .int) :: gx_TB) (gx_rm 1) (gx_Pre Z u [.ref (Z.2.1 v0), .int v1]) (va_Qi post (gx_B Z) (gx_A Z)) 0 0 (gx_A Z) := by
  refine gx_met (by decide +kernel) (Nat.le_of_ble_eq_true rfl) ?_
  intro E X hZ hQ hD hL
  subst hZ
  exact w_X10_end X (Nat.le_of_eq hD.symm) hQ h
-- PlainSealModel.octet(I)I
theorem dX10_octet_0 : decode cX10_octet 0 = .ok (.iload_n 1, 1) := by decide +kernel
theorem dX10_octet_1 : decode cX10_octet 1 = .ok (.i2l, 1) := by decide +kernel
theorem dX10_octet_2 : decode cX10_octet 2 = .ok (.ldc2_w 243, 3) := by decide +kernel
theorem dX10_octet_5 : decode cX10_octet 5 = .ok (.aload_n 0, 1) := by decide +kernel
theorem dX10_octet_6 : decode cX10_octet 6 = .ok (.getfield 166, 3) := by decide +kernel
theorem dX10_octet_9 : decode cX10_octet 9 = .ok (.iconst 1, 1) := by decide +kernel
theorem dX10_octet_10 : decode cX10_octet 10 = .ok (.isub, 1) := by decide +kernel
theorem dX10_octet_11 : decode cX10_octet 11 = .ok (.i2l, 1) := by decide +kernel
theorem dX10_octet_12 : decode cX10_octet 12 = .ok (.invokestatic 102, 3) := by decide +kernel
theorem dX10_octet_15 : decode cX10_octet 15 = .ok (.ifCond .ne 6, 3) := by decide +kernel
theorem dX10_octet_18 : decode cX10_octet 18 = .ok (.bipush (-2), 2) := by decide +kernel
theorem dX10_octet_20 : decode cX10_octet 20 = .ok (.ireturn, 1) := by decide +kernel
theorem dX10_octet_21 : decode cX10_octet 21 = .ok (.iload_n 1, 1) := by decide +kernel
theorem dX10_octet_22 : decode cX10_octet 22 = .ok (.ifCond .ge 10, 3) := by decide +kernel
theorem dX10_octet_25 : decode cX10_octet 25 = .ok (.aload_n 0, 1) := by decide +kernel
theorem dX10_octet_26 : decode cX10_octet 26 = .ok (.getfield 166, 3) := by decide +kernel
theorem dX10_octet_29 : decode cX10_octet 29 = .ok (.goto 13, 3) := by decide +kernel
theorem dX10_octet_32 : decode cX10_octet 32 = .ok (.aload_n 0, 1) := by decide +kernel
theorem dX10_octet_33 : decode cX10_octet 33 = .ok (.getfield 17, 3) := by decide +kernel
theorem dX10_octet_36 : decode cX10_octet 36 = .ok (.iload_n 1, 1) := by decide +kernel
theorem dX10_octet_37 : decode cX10_octet 37 = .ok (.baload, 1) := by decide +kernel
theorem dX10_octet_38 : decode cX10_octet 38 = .ok (.sipush 255, 3) := by decide +kernel
theorem dX10_octet_41 : decode cX10_octet 41 = .ok (.iand, 1) := by decide +kernel
theorem dX10_octet_42 : decode cX10_octet 42 = .ok (.ireturn, 1) := by decide +kernel
theorem hyX10_octet : yX10_octet.cls ≠ "java/lang/invoke/MethodHandle" ∧ yX10_octet.cls ≠ "java/lang/invoke/VarHandle" ∧ (parseMethodDescriptor yX10_octet.desc).map (fun d => d.parameters.length) = some 1 := by decide +kernel
def S_X10_octet (u : gx_S) (v0 : Nat) (v1 : Int32) (post : Int32 → gx_S → Prop) : Prop := (gx_isO v0 9 ∧ (S_X10_in u (v1).toInt64 (-1 : Int64) (((gx_i u v0 2) - (1 : Int32))).toInt64 (fun (r3 : Int32) (u2 : gx_S) => ((¬ r3 = 0 → ((0 ≤ v1 → (gx_isR (gx_r u2 v0 3) .byte ∧ vp_in v1 (gx_len (gx_r u2 v0 3)) ∧ post ((gx_a u2 (gx_r u2 v0 3) v1.toNatClampNeg) &&& (255 : Int32)) u2)) ∧ (¬ 0 ≤ v1 → post (gx_i u2 v0 2) u2))) ∧ (r3 = 0 → post (-2 : Int32) u2)))))
set_option maxHeartbeats 4000000 in
set_option maxRecDepth 100000 in
theorem w_X10_octet {E : gx_E} (X : gx_X E cX10_octet 2 RX10 (some .int)) (hd : 1 ≤ ex_d E) {post : Int32 → gx_S → Prop} (hQ : ex_Q E = va_Qi post (gx_B (ex_Z E)) (gx_A (ex_Z E))) {u : gx_S} {v0 : Nat} {v1 : Int32} (h : S_X10_octet u v0 v1 post) : gx_Wc E 2 0 [(0, .ref (ex_ad E v0)), (1, .int v1)] [] u := by
  unfold S_X10_octet at h
  refine gx_iload_n X (j := 1) dX10_octet_0 rfl rfl ?_
  refine gx_i2l X (v := (v1).toInt64) dX10_octet_1 rfl ?_
  refine gx_ldc2 X (v := -1) mw_778 dX10_octet_2 ?_
  refine gx_aload_n X (j := 0) dX10_octet_5 rfl rfl ?_
  obtain ⟨k1, h⟩ := h
  refine gx_get X k1 rfl iwX10 2 (by decide) mw_523 (v := .int (gx_i u v0 2)) rfl dX10_octet_6 ?_
  refine gx_iconst X (v := 1) dX10_octet_9 (by decide) ?_
  refine gx_isub X dX10_octet_10 ?_
  refine gx_i2l X (v := (((gx_i u v0 2) - (1 : Int32))).toInt64) dX10_octet_11 rfl ?_
  refine gx_ki (gx_rS X (c_X10_in h) (Nat.le_trans (by decide) hd) (Nat.le_trans (by decide) (Nat.mul_le_mul_left 40 hd)) mw_618 mw_619 mw_7 mw_620 hyX10_in (As := [.long (v1).toInt64, .long (-1 : Int64), .long (((gx_i u v0 2) - (1 : Int32))).toInt64]) (rest := []) rfl rfl (Nat.le_of_ble_eq_true rfl) dX10_octet_12) (fun r3 u2 h => ?_)
  refine gx_if_ne X (tgt := 21) dX10_octet_15 (by decide) (fun c7 => ?_) (fun c7 => ?_)
  · replace h := h.1 c7
    refine gx_iload_n X (j := 1) dX10_octet_21 rfl rfl ?_
    refine gx_if_ge X (tgt := 32) dX10_octet_22 (by decide) (fun c6 => ?_) (fun c6 => ?_)
    · replace h := h.1 c6
      refine gx_aload_n X (j := 0) dX10_octet_32 rfl rfl ?_
      refine gx_get X k1 rfl iwX10 3 (by decide) mw_524 (v := .ref (ex_ad E (gx_r u2 v0 3))) rfl dX10_octet_33 ?_
      refine gx_iload_n X (j := 1) dX10_octet_36 rfl rfl ?_
      obtain ⟨k4, h⟩ := h
      obtain ⟨k5, h⟩ := h
      refine gx_bald X k4 k5 dX10_octet_37 ?_
      refine gx_sipush X (v := 255) dX10_octet_38 (by decide) ?_
      refine gx_iand X dX10_octet_41 ?_
      exact gx_iret X hQ h dX10_octet_42
    · replace h := h.2 c6
      refine gx_aload_n X (j := 0) dX10_octet_25 rfl rfl ?_
      refine gx_get X k1 rfl iwX10 2 (by decide) mw_523 (v := .int (gx_i u2 v0 2)) rfl dX10_octet_26 ?_
      refine gx_goto X (tgt := 42) dX10_octet_29 (by decide) ?_
      exact gx_iret X hQ h dX10_octet_42
  · replace h := h.2 c7
    refine gx_bipush X (v := -2) dX10_octet_18 (by decide) ?_
    exact gx_iret X hQ h dX10_octet_20
theorem c_X10_octet {l : Launch} {Z : gx_Z} {u : gx_S} {v0 : Nat} {v1 : Int32} {post : Int32 → gx_S → Prop} (h : S_X10_octet u v0 v1 post) : Met l yX10_octet (Cond.code yX10_octet cX10_octet 2 (some .int) :: gx_TB) (gx_rm 1) (gx_Pre Z u [.ref (Z.2.1 v0), .int v1]) (va_Qi post (gx_B Z) (gx_A Z)) 0 0 (gx_A Z) := by
  refine gx_met (by decide +kernel) (Nat.le_of_ble_eq_true rfl) ?_
  intro E X hZ hQ hD hL
  subst hZ
  exact w_X10_octet X (Nat.le_of_eq hD.symm) hQ h
-- PlainSealModel.message()I
theorem dX10_message_0 : decode cX10_message 0 = .ok (.aload_n 0, 1) := by decide +kernel
theorem dX10_message_1 : decode cX10_message 1 = .ok (.invokevirtual 112, 3) := by decide +kernel
theorem dX10_message_4 : decode cX10_message 4 = .ok (.istore_n 1, 1) := by decide +kernel
theorem dX10_message_5 : decode cX10_message 5 = .ok (.iconst 0, 1) := by decide +kernel
theorem dX10_message_6 : decode cX10_message 6 = .ok (.istore_n 2, 1) := by decide +kernel
theorem dX10_message_7 : decode cX10_message 7 = .ok (.iconst 0, 1) := by decide +kernel
theorem dX10_message_8 : decode cX10_message 8 = .ok (.istore_n 3, 1) := by decide +kernel
theorem dX10_message_9 : decode cX10_message 9 = .ok (.iload_n 1, 1) := by decide +kernel
theorem dX10_message_10 : decode cX10_message 10 = .ok (.istore 4, 2) := by decide +kernel
theorem dX10_message_12 : decode cX10_message 12 = .ok (.iconst 1, 1) := by decide +kernel
theorem dX10_message_13 : decode cX10_message 13 = .ok (.istore 5, 2) := by decide +kernel
theorem dX10_message_15 : decode cX10_message 15 = .ok (.iload 5, 2) := by decide +kernel
theorem dX10_message_17 : decode cX10_message 17 = .ok (.ifCond .eq 200, 3) := by decide +kernel
theorem dX10_message_20 : decode cX10_message 20 = .ok (.iload_n 3, 1) := by decide +kernel
theorem dX10_message_21 : decode cX10_message 21 = .ok (.iload_n 1, 1) := by decide +kernel
theorem dX10_message_22 : decode cX10_message 22 = .ok (.if_icmp .ge 195, 3) := by decide +kernel
theorem dX10_message_25 : decode cX10_message 25 = .ok (.aload_n 0, 1) := by decide +kernel
theorem dX10_message_26 : decode cX10_message 26 = .ok (.getfield 13, 3) := by decide +kernel
theorem dX10_message_29 : decode cX10_message 29 = .ok (.iload_n 3, 1) := by decide +kernel
theorem dX10_message_30 : decode cX10_message 30 = .ok (.iload_n 1, 1) := by decide +kernel
theorem dX10_message_31 : decode cX10_message 31 = .ok (.invokestatic 116, 3) := by decide +kernel
theorem dX10_message_34 : decode cX10_message 34 = .ok (.istore 6, 2) := by decide +kernel
theorem dX10_message_36 : decode cX10_message 36 = .ok (.aload_n 0, 1) := by decide +kernel
theorem dX10_message_37 : decode cX10_message 37 = .ok (.getfield 13, 3) := by decide +kernel
theorem dX10_message_40 : decode cX10_message 40 = .ok (.iload_n 3, 1) := by decide +kernel
theorem dX10_message_41 : decode cX10_message 41 = .ok (.baload, 1) := by decide +kernel
theorem dX10_message_42 : decode cX10_message 42 = .ok (.bipush 10, 2) := by decide +kernel
theorem dX10_message_44 : decode cX10_message 44 = .ok (.if_icmp .ne 14, 3) := by decide +kernel
theorem dX10_message_47 : decode cX10_message 47 = .ok (.iload_n 3, 1) := by decide +kernel
theorem dX10_message_48 : decode cX10_message 48 = .ok (.iconst 1, 1) := by decide +kernel
theorem dX10_message_49 : decode cX10_message 49 = .ok (.iadd, 1) := by decide +kernel
theorem dX10_message_50 : decode cX10_message 50 = .ok (.istore 4, 2) := by decide +kernel
theorem dX10_message_52 : decode cX10_message 52 = .ok (.iconst 0, 1) := by decide +kernel
theorem dX10_message_53 : decode cX10_message 53 = .ok (.istore 5, 2) := by decide +kernel
theorem dX10_message_55 : decode cX10_message 55 = .ok (.goto 156, 3) := by decide +kernel
theorem dX10_message_58 : decode cX10_message 58 = .ok (.aload_n 0, 1) := by decide +kernel
theorem dX10_message_59 : decode cX10_message 59 = .ok (.getfield 13, 3) := by decide +kernel
theorem dX10_message_62 : decode cX10_message 62 = .ok (.iload_n 3, 1) := by decide +kernel
theorem dX10_message_63 : decode cX10_message 63 = .ok (.baload, 1) := by decide +kernel
theorem dX10_message_64 : decode cX10_message 64 = .ok (.invokestatic 120, 3) := by decide +kernel
theorem dX10_message_67 : decode cX10_message 67 = .ok (.ifCond .eq 22, 3) := by decide +kernel
theorem dX10_message_70 : decode cX10_message 70 = .ok (.iload_n 2, 1) := by decide +kernel
theorem dX10_message_71 : decode cX10_message 71 = .ok (.ifCond .ne 5, 3) := by decide +kernel
theorem dX10_message_74 : decode cX10_message 74 = .ok (.iconst (-1), 1) := by decide +kernel
theorem dX10_message_75 : decode cX10_message 75 = .ok (.ireturn, 1) := by decide +kernel
theorem dX10_message_76 : decode cX10_message 76 = .ok (.aload_n 0, 1) := by decide +kernel
theorem dX10_message_77 : decode cX10_message 77 = .ok (.getfield 39, 3) := by decide +kernel
theorem dX10_message_80 : decode cX10_message 80 = .ok (.iload_n 2, 1) := by decide +kernel
theorem dX10_message_81 : decode cX10_message 81 = .ok (.iconst 1, 1) := by decide +kernel
theorem dX10_message_82 : decode cX10_message 82 = .ok (.isub, 1) := by decide +kernel
theorem dX10_message_83 : decode cX10_message 83 = .ok (.iload 6, 2) := by decide +kernel
theorem dX10_message_85 : decode cX10_message 85 = .ok (.iastore, 1) := by decide +kernel
theorem dX10_message_86 : decode cX10_message 86 = .ok (.goto 125, 3) := by decide +kernel
theorem dX10_message_89 : decode cX10_message 89 = .ok (.iload_n 3, 1) := by decide +kernel
theorem dX10_message_90 : decode cX10_message 90 = .ok (.istore 7, 2) := by decide +kernel
theorem dX10_message_92 : decode cX10_message 92 = .ok (.iload 7, 2) := by decide +kernel
theorem dX10_message_94 : decode cX10_message 94 = .ok (.iload 6, 2) := by decide +kernel
theorem dX10_message_96 : decode cX10_message 96 = .ok (.if_icmp .ge 47, 3) := by decide +kernel
theorem dX10_message_99 : decode cX10_message 99 = .ok (.aload_n 0, 1) := by decide +kernel
theorem dX10_message_100 : decode cX10_message 100 = .ok (.getfield 13, 3) := by decide +kernel
theorem dX10_message_103 : decode cX10_message 103 = .ok (.iload 7, 2) := by decide +kernel
theorem dX10_message_105 : decode cX10_message 105 = .ok (.baload, 1) := by decide +kernel
theorem dX10_message_106 : decode cX10_message 106 = .ok (.invokestatic 123, 3) := by decide +kernel
theorem dX10_message_109 : decode cX10_message 109 = .ok (.ifCond .ne 28, 3) := by decide +kernel
theorem dX10_message_112 : decode cX10_message 112 = .ok (.aload_n 0, 1) := by decide +kernel
theorem dX10_message_113 : decode cX10_message 113 = .ok (.getfield 13, 3) := by decide +kernel
theorem dX10_message_116 : decode cX10_message 116 = .ok (.iload 7, 2) := by decide +kernel
theorem dX10_message_118 : decode cX10_message 118 = .ok (.baload, 1) := by decide +kernel
theorem dX10_message_119 : decode cX10_message 119 = .ok (.invokestatic 126, 3) := by decide +kernel
theorem dX10_message_122 : decode cX10_message 122 = .ok (.ifCond .ne 15, 3) := by decide +kernel
theorem dX10_message_125 : decode cX10_message 125 = .ok (.aload_n 0, 1) := by decide +kernel
theorem dX10_message_126 : decode cX10_message 126 = .ok (.getfield 13, 3) := by decide +kernel
theorem dX10_message_129 : decode cX10_message 129 = .ok (.iload 7, 2) := by decide +kernel
theorem dX10_message_131 : decode cX10_message 131 = .ok (.baload, 1) := by decide +kernel
theorem dX10_message_132 : decode cX10_message 132 = .ok (.bipush 45, 2) := by decide +kernel
theorem dX10_message_134 : decode cX10_message 134 = .ok (.if_icmp .ne 9, 3) := by decide +kernel
theorem dX10_message_137 : decode cX10_message 137 = .ok (.iinc 7 1, 3) := by decide +kernel
theorem dX10_message_140 : decode cX10_message 140 = .ok (.goto (-48), 3) := by decide +kernel
theorem dX10_message_143 : decode cX10_message 143 = .ok (.iload 7, 2) := by decide +kernel
theorem dX10_message_145 : decode cX10_message 145 = .ok (.iload_n 3, 1) := by decide +kernel
theorem dX10_message_146 : decode cX10_message 146 = .ok (.isub, 1) := by decide +kernel
theorem dX10_message_147 : decode cX10_message 147 = .ok (.i2l, 1) := by decide +kernel
theorem dX10_message_148 : decode cX10_message 148 = .ok (.lconst 1, 1) := by decide +kernel
theorem dX10_message_149 : decode cX10_message 149 = .ok (.ldc2_w 129, 3) := by decide +kernel
theorem dX10_message_152 : decode cX10_message 152 = .ok (.invokestatic 102, 3) := by decide +kernel
theorem dX10_message_155 : decode cX10_message 155 = .ok (.ifCond .eq 28, 3) := by decide +kernel
theorem dX10_message_158 : decode cX10_message 158 = .ok (.iload 7, 2) := by decide +kernel
theorem dX10_message_160 : decode cX10_message 160 = .ok (.iload 6, 2) := by decide +kernel
theorem dX10_message_162 : decode cX10_message 162 = .ok (.if_icmp .eq 21, 3) := by decide +kernel
theorem dX10_message_165 : decode cX10_message 165 = .ok (.aload_n 0, 1) := by decide +kernel
theorem dX10_message_166 : decode cX10_message 166 = .ok (.getfield 13, 3) := by decide +kernel
theorem dX10_message_169 : decode cX10_message 169 = .ok (.iload 7, 2) := by decide +kernel
theorem dX10_message_171 : decode cX10_message 171 = .ok (.baload, 1) := by decide +kernel
theorem dX10_message_172 : decode cX10_message 172 = .ok (.bipush 58, 2) := by decide +kernel
theorem dX10_message_174 : decode cX10_message 174 = .ok (.if_icmp .ne 9, 3) := by decide +kernel
theorem dX10_message_177 : decode cX10_message 177 = .ok (.iload_n 2, 1) := by decide +kernel
theorem dX10_message_178 : decode cX10_message 178 = .ok (.bipush 20, 2) := by decide +kernel
theorem dX10_message_180 : decode cX10_message 180 = .ok (.if_icmp .ne 5, 3) := by decide +kernel
theorem dX10_message_183 : decode cX10_message 183 = .ok (.iconst (-1), 1) := by decide +kernel
theorem dX10_message_184 : decode cX10_message 184 = .ok (.ireturn, 1) := by decide +kernel
theorem dX10_message_185 : decode cX10_message 185 = .ok (.aload_n 0, 1) := by decide +kernel
theorem dX10_message_186 : decode cX10_message 186 = .ok (.getfield 33, 3) := by decide +kernel
theorem dX10_message_189 : decode cX10_message 189 = .ok (.iload_n 2, 1) := by decide +kernel
theorem dX10_message_190 : decode cX10_message 190 = .ok (.iload_n 3, 1) := by decide +kernel
theorem dX10_message_191 : decode cX10_message 191 = .ok (.iastore, 1) := by decide +kernel
theorem dX10_message_192 : decode cX10_message 192 = .ok (.aload_n 0, 1) := by decide +kernel
theorem dX10_message_193 : decode cX10_message 193 = .ok (.getfield 36, 3) := by decide +kernel
theorem dX10_message_196 : decode cX10_message 196 = .ok (.iload_n 2, 1) := by decide +kernel
theorem dX10_message_197 : decode cX10_message 197 = .ok (.iload 7, 2) := by decide +kernel
theorem dX10_message_199 : decode cX10_message 199 = .ok (.iastore, 1) := by decide +kernel
theorem dX10_message_200 : decode cX10_message 200 = .ok (.aload_n 0, 1) := by decide +kernel
theorem dX10_message_201 : decode cX10_message 201 = .ok (.getfield 39, 3) := by decide +kernel
theorem dX10_message_204 : decode cX10_message 204 = .ok (.iload_n 2, 1) := by decide +kernel
theorem dX10_message_205 : decode cX10_message 205 = .ok (.iload 6, 2) := by decide +kernel
theorem dX10_message_207 : decode cX10_message 207 = .ok (.iastore, 1) := by decide +kernel
theorem dX10_message_208 : decode cX10_message 208 = .ok (.iinc 2 1, 3) := by decide +kernel
theorem dX10_message_211 : decode cX10_message 211 = .ok (.iload 6, 2) := by decide +kernel
theorem dX10_message_213 : decode cX10_message 213 = .ok (.istore_n 3, 1) := by decide +kernel
theorem dX10_message_214 : decode cX10_message 214 = .ok (.goto (-199), 3) := by decide +kernel
theorem dX10_message_217 : decode cX10_message 217 = .ok (.iload_n 2, 1) := by decide +kernel
theorem dX10_message_218 : decode cX10_message 218 = .ok (.ifCond .ne 5, 3) := by decide +kernel
theorem dX10_message_221 : decode cX10_message 221 = .ok (.iconst (-1), 1) := by decide +kernel
theorem dX10_message_222 : decode cX10_message 222 = .ok (.ireturn, 1) := by decide +kernel
theorem dX10_message_223 : decode cX10_message 223 = .ok (.aload_n 0, 1) := by decide +kernel
theorem dX10_message_224 : decode cX10_message 224 = .ok (.iload_n 2, 1) := by decide +kernel
theorem dX10_message_225 : decode cX10_message 225 = .ok (.putfield 131, 3) := by decide +kernel
theorem dX10_message_228 : decode cX10_message 228 = .ok (.aload_n 0, 1) := by decide +kernel
theorem dX10_message_229 : decode cX10_message 229 = .ok (.getfield 33, 3) := by decide +kernel
theorem dX10_message_232 : decode cX10_message 232 = .ok (.iconst 0, 1) := by decide +kernel
theorem dX10_message_233 : decode cX10_message 233 = .ok (.aload_n 0, 1) := by decide +kernel
theorem dX10_message_234 : decode cX10_message 234 = .ok (.getfield 23, 3) := by decide +kernel
theorem dX10_message_237 : decode cX10_message 237 = .ok (.iconst 0, 1) := by decide +kernel
theorem dX10_message_238 : decode cX10_message 238 = .ok (.iload_n 2, 1) := by decide +kernel
theorem dX10_message_239 : decode cX10_message 239 = .ok (.invokestatic 134, 3) := by decide +kernel
theorem dX10_message_242 : decode cX10_message 242 = .ok (.aload_n 0, 1) := by decide +kernel
theorem dX10_message_243 : decode cX10_message 243 = .ok (.getfield 36, 3) := by decide +kernel
theorem dX10_message_246 : decode cX10_message 246 = .ok (.iconst 0, 1) := by decide +kernel
theorem dX10_message_247 : decode cX10_message 247 = .ok (.aload_n 0, 1) := by decide +kernel
theorem dX10_message_248 : decode cX10_message 248 = .ok (.getfield 27, 3) := by decide +kernel
theorem dX10_message_251 : decode cX10_message 251 = .ok (.iconst 0, 1) := by decide +kernel
theorem dX10_message_252 : decode cX10_message 252 = .ok (.iload_n 2, 1) := by decide +kernel
theorem dX10_message_253 : decode cX10_message 253 = .ok (.invokestatic 134, 3) := by decide +kernel
theorem dX10_message_256 : decode cX10_message 256 = .ok (.aload_n 0, 1) := by decide +kernel
theorem dX10_message_257 : decode cX10_message 257 = .ok (.getfield 39, 3) := by decide +kernel
theorem dX10_message_260 : decode cX10_message 260 = .ok (.iconst 0, 1) := by decide +kernel
theorem dX10_message_261 : decode cX10_message 261 = .ok (.aload_n 0, 1) := by decide +kernel
theorem dX10_message_262 : decode cX10_message 262 = .ok (.getfield 30, 3) := by decide +kernel
theorem dX10_message_265 : decode cX10_message 265 = .ok (.iconst 0, 1) := by decide +kernel
theorem dX10_message_266 : decode cX10_message 266 = .ok (.iload_n 2, 1) := by decide +kernel
theorem dX10_message_267 : decode cX10_message 267 = .ok (.invokestatic 134, 3) := by decide +kernel
theorem dX10_message_270 : decode cX10_message 270 = .ok (.aload_n 0, 1) := by decide +kernel
theorem dX10_message_271 : decode cX10_message 271 = .ok (.getfield 13, 3) := by decide +kernel
theorem dX10_message_274 : decode cX10_message 274 = .ok (.iconst 0, 1) := by decide +kernel
theorem dX10_message_275 : decode cX10_message 275 = .ok (.aload_n 0, 1) := by decide +kernel
theorem dX10_message_276 : decode cX10_message 276 = .ok (.getfield 20, 3) := by decide +kernel
theorem dX10_message_279 : decode cX10_message 279 = .ok (.iconst 0, 1) := by decide +kernel
theorem dX10_message_280 : decode cX10_message 280 = .ok (.iload_n 1, 1) := by decide +kernel
theorem dX10_message_281 : decode cX10_message 281 = .ok (.invokestatic 134, 3) := by decide +kernel
theorem dX10_message_284 : decode cX10_message 284 = .ok (.aload_n 0, 1) := by decide +kernel
theorem dX10_message_285 : decode cX10_message 285 = .ok (.iload 4, 2) := by decide +kernel
theorem dX10_message_287 : decode cX10_message 287 = .ok (.putfield 140, 3) := by decide +kernel
theorem dX10_message_290 : decode cX10_message 290 = .ok (.aload_n 0, 1) := by decide +kernel
theorem dX10_message_291 : decode cX10_message 291 = .ok (.iload_n 1, 1) := by decide +kernel
theorem dX10_message_292 : decode cX10_message 292 = .ok (.putfield 143, 3) := by decide +kernel
theorem dX10_message_295 : decode cX10_message 295 = .ok (.aload_n 0, 1) := by decide +kernel
theorem dX10_message_296 : decode cX10_message 296 = .ok (.iconst 1, 1) := by decide +kernel
theorem dX10_message_297 : decode cX10_message 297 = .ok (.putfield 146, 3) := by decide +kernel
theorem dX10_message_300 : decode cX10_message 300 = .ok (.iload_n 2, 1) := by decide +kernel
theorem dX10_message_301 : decode cX10_message 301 = .ok (.ireturn, 1) := by decide +kernel
theorem hyX10_message : yX10_message.cls ≠ "java/lang/invoke/MethodHandle" ∧ yX10_message.cls ≠ "java/lang/invoke/VarHandle" ∧ (parseMethodDescriptor yX10_message.desc).map (fun d => d.parameters.length) = some 0 := by decide +kernel
abbrev J_X10_message_15 (E : gx_E) (v0 : Nat) (v1 : Int32) (v2 : Int32) (v3 : Int32) (v4 : Int32) (v5 : Int32) (u : gx_S) : Prop := gx_Wc E 8 15 [(0, .ref (ex_ad E v0)), (1, .int v1), (2, .int v2), (3, .int v3), (4, .int v4), (5, .int v5)] [] u
abbrev J_X10_message_92 (E : gx_E) (v0 : Nat) (v1 : Int32) (v2 : Int32) (v3 : Int32) (v4 : Int32) (v5 : Int32) (v6 : Int32) (v7 : Int32) (u : gx_S) : Prop := gx_Wc E 8 92 [(0, .ref (ex_ad E v0)), (1, .int v1), (2, .int v2), (3, .int v3), (4, .int v4), (5, .int v5), (6, .int v6), (7, .int v7)] [] u
abbrev J_X10_message_143 (E : gx_E) (v0 : Nat) (v1 : Int32) (v2 : Int32) (v3 : Int32) (v4 : Int32) (v5 : Int32) (v6 : Int32) (v7 : Int32) (u : gx_S) : Prop := gx_Wc E 8 143 [(0, .ref (ex_ad E v0)), (1, .int v1), (2, .int v2), (3, .int v3), (4, .int v4), (5, .int v5), (6, .int v6), (7, .int v7)] [] u
abbrev J_X10_message_217 (E : gx_E) (v0 : Nat) (v1 : Int32) (v2 : Int32) (v3 : Int32) (v4 : Int32) (v5 : Int32) (u : gx_S) : Prop := gx_Wc E 8 217 [(0, .ref (ex_ad E v0)), (1, .int v1), (2, .int v2), (3, .int v3), (4, .int v4), (5, .int v5)] [] u
set_option maxHeartbeats 4000000 in
set_option maxRecDepth 100000 in
theorem w_X10_message_0 {E : gx_E} (X : gx_X E cX10_message 8 RX10 (some .int)) (hd : 2 ≤ ex_d E) {post : Int32 → gx_S → Prop} (hQ : ex_Q E = va_Qi post (gx_B (ex_Z E)) (gx_A (ex_Z E))) {u : gx_S} {v0 : Nat} (h : (gx_isO v0 9 ∧ S_X10_used u v0 (fun (r3 : Int32) (u2 : gx_S) => J_X10_message_15 E v0 r3 (0 : Int32) (0 : Int32) r3 (1 : Int32) u2))) : gx_Wc E 8 0 [(0, .ref (ex_ad E v0))] [] u := by
  refine gx_aload_n X (j := 0) dX10_message_0 rfl rfl ?_
  obtain ⟨k1, h⟩ := h
  refine gx_ki (gx_rV X (c_X10_used h) (Nat.le_trans (by decide) hd) (Nat.le_trans (by decide) (Nat.mul_le_mul_left 40 hd)) k1 rfl mw_625 mw_627 mp_12 mw_7 mw_628 hyX10_used (As := []) (rest := []) rfl rfl (Nat.le_of_ble_eq_true rfl) dX10_message_1) (fun r3 u2 h => ?_)
  refine gx_istore_n X (lv' := [(1, .int r3), (0, .ref (ex_ad E v0))]) dX10_message_4 rfl (by decide) rfl ?_
  refine gx_iconst X (v := 0) dX10_message_5 (by decide) ?_
  refine gx_istore_n X (lv' := [(2, .int (0 : Int32)), (1, .int r3), (0, .ref (ex_ad E v0))]) dX10_message_6 rfl (by decide) rfl ?_
  refine gx_iconst X (v := 0) dX10_message_7 (by decide) ?_
  refine gx_istore_n X (lv' := [(3, .int (0 : Int32)), (2, .int (0 : Int32)), (1, .int r3), (0, .ref (ex_ad E v0))]) dX10_message_8 rfl (by decide) rfl ?_
  refine gx_iload_n X (j := 2) dX10_message_9 rfl rfl ?_
  refine gx_istore X (lv' := [(4, .int r3), (3, .int (0 : Int32)), (2, .int (0 : Int32)), (1, .int r3), (0, .ref (ex_ad E v0))]) dX10_message_10 (by decide) rfl ?_
  refine gx_iconst X (v := 1) dX10_message_12 (by decide) ?_
  refine gx_istore X (lv' := [(5, .int (1 : Int32)), (4, .int r3), (3, .int (0 : Int32)), (2, .int (0 : Int32)), (1, .int r3), (0, .ref (ex_ad E v0))]) dX10_message_13 (by decide) rfl ?_
  exact gx_sub [5, 4, 3, 2, 1, 0] rfl h
set_option maxHeartbeats 4000000 in
set_option maxRecDepth 100000 in
theorem w_X10_message_15 {E : gx_E} (X : gx_X E cX10_message 8 RX10 (some .int)) (hd : 2 ≤ ex_d E) {post : Int32 → gx_S → Prop} (hQ : ex_Q E = va_Qi post (gx_B (ex_Z E)) (gx_A (ex_Z E))) {u : gx_S} {v0 : Nat} {v1 : Int32} {v2 : Int32} {v3 : Int32} {v4 : Int32} {v5 : Int32} (h : ((v5 = 0 → J_X10_message_217 E v0 v1 v2 v3 v4 v5 u) ∧ (¬ v5 = 0 → ((v1 ≤ v3 → J_X10_message_217 E v0 v1 v2 v3 v4 v5 u) ∧ (¬ v1 ≤ v3 → (gx_isO v0 9 ∧ (S_X10_lineEnd u (gx_r u v0 0) v3 v1 (fun (r3 : Int32) (u2 : gx_S) => (gx_isR (gx_r u2 v0 0) .byte ∧ vp_in v3 (gx_len (gx_r u2 v0 0)) ∧ ((¬ (gx_a u2 (gx_r u2 v0 0) v3.toNatClampNeg) = (10 : Int32) → (vp_in v3 (gx_len (gx_r u2 v0 0)) ∧ (S_X10_isWhite u2 (gx_a u2 (gx_r u2 v0 0) v3.toNatClampNeg) (fun (r8 : Int32) (u7 : gx_S) => ((r8 = 0 → J_X10_message_92 E v0 v1 v2 v3 v4 v5 r3 v3 u7) ∧ (¬ r8 = 0 → ((¬ v2 = 0 → (gx_isA (gx_r u7 v0 10) .int ∧ vp_in (v2 - (1 : Int32)) (gx_len (gx_r u7 v0 10)) ∧ ∀ u11 : gx_S, u11 = gx_pa u7 (gx_r u7 v0 10) (upd (gx_a u7 (gx_r u7 v0 10)) (v2 - (1 : Int32)).toNatClampNeg r3) → J_X10_message_15 E v0 v1 v2 r3 v4 v5 u11)) ∧ (v2 = 0 → post (-1 : Int32) u7)))))))) ∧ ((gx_a u2 (gx_r u2 v0 0) v3.toNatClampNeg) = (10 : Int32) → (∀ x14 : Int32, x14 = (v3 + (1 : Int32)) → J_X10_message_15 E v0 v1 v2 r3 x14 (0 : Int32) u2)))))))))))) : gx_Wc E 8 15 [(0, .ref (ex_ad E v0)), (1, .int v1), (2, .int v2), (3, .int v3), (4, .int v4), (5, .int v5)] [] u := by
  refine gx_iload X (j := 5) dX10_message_15 rfl ?_
  refine gx_if_eq X (tgt := 217) dX10_message_17 (by decide) (fun c17 => ?_) (fun c17 => ?_)
  · replace h := h.1 c17
    exact gx_sub [0, 1, 2, 3, 4, 5] rfl h
  · replace h := h.2 c17
    refine gx_iload_n X (j := 3) dX10_message_20 rfl rfl ?_
    refine gx_iload_n X (j := 1) dX10_message_21 rfl rfl ?_
    refine gx_icmp_ge X (tgt := 217) dX10_message_22 (by decide) (fun c16 => ?_) (fun c16 => ?_)
    · replace h := h.1 c16
      exact gx_sub [0, 1, 2, 3, 4, 5] rfl h
    · replace h := h.2 c16
      refine gx_aload_n X (j := 0) dX10_message_25 rfl rfl ?_
      obtain ⟨k1, h⟩ := h
      refine gx_get X k1 rfl iwX10 0 (by decide) mw_521 (v := .ref (ex_ad E (gx_r u v0 0))) rfl dX10_message_26 ?_
      refine gx_iload_n X (j := 3) dX10_message_29 rfl rfl ?_
      refine gx_iload_n X (j := 1) dX10_message_30 rfl rfl ?_
      refine gx_ki (gx_rS X (c_X10_lineEnd h) (Nat.le_trans (by decide) hd) (Nat.le_trans (by decide) (Nat.mul_le_mul_left 40 hd)) mw_629 mw_630 mw_7 mw_631 hyX10_lineEnd (As := [.ref (ex_ad E (gx_r u v0 0)), .int v3, .int v1]) (rest := []) rfl rfl (Nat.le_of_ble_eq_true rfl) dX10_message_31) (fun r3 u2 h => ?_)
      refine gx_istore X (lv' := [(6, .int r3), (0, .ref (ex_ad E v0)), (1, .int v1), (2, .int v2), (3, .int v3), (4, .int v4), (5, .int v5)]) dX10_message_34 (by decide) rfl ?_
      refine gx_aload_n X (j := 1) dX10_message_36 rfl rfl ?_
      refine gx_get X k1 rfl iwX10 0 (by decide) mw_521 (v := .ref (ex_ad E (gx_r u2 v0 0))) rfl dX10_message_37 ?_
      refine gx_iload_n X (j := 4) dX10_message_40 rfl rfl ?_
      obtain ⟨k4, h⟩ := h
      obtain ⟨k5, h⟩ := h
      refine gx_bald X k4 k5 dX10_message_41 ?_
      refine gx_bipush X (v := 10) dX10_message_42 (by decide) ?_
      refine gx_icmp_ne X (tgt := 58) dX10_message_44 (by decide) (fun c15 => ?_) (fun c15 => ?_)
      · replace h := h.1 c15
        refine gx_aload_n X (j := 1) dX10_message_58 rfl rfl ?_
        refine gx_get X k1 rfl iwX10 0 (by decide) mw_521 (v := .ref (ex_ad E (gx_r u2 v0 0))) rfl dX10_message_59 ?_
        refine gx_iload_n X (j := 4) dX10_message_62 rfl rfl ?_
        obtain ⟨k6, h⟩ := h
        refine gx_bald X k4 k6 dX10_message_63 ?_
        refine gx_ki (gx_rS X (c_X10_isWhite h) (Nat.le_trans (by decide) hd) (Nat.le_trans (by decide) (Nat.mul_le_mul_left 40 hd)) mw_635 mw_636 mw_7 mw_637 hyX10_isWhite (As := [.int (gx_a u2 (gx_r u2 v0 0) v3.toNatClampNeg)]) (rest := []) rfl rfl (Nat.le_of_ble_eq_true rfl) dX10_message_64) (fun r8 u7 h => ?_)
        refine gx_if_eq X (tgt := 89) dX10_message_67 (by decide) (fun c13 => ?_) (fun c13 => ?_)
        · replace h := h.1 c13
          refine gx_iload_n X (j := 4) dX10_message_89 rfl rfl ?_
          refine gx_istore X (lv' := [(7, .int v3), (6, .int r3), (0, .ref (ex_ad E v0)), (1, .int v1), (2, .int v2), (3, .int v3), (4, .int v4), (5, .int v5)]) dX10_message_90 (by decide) rfl ?_
          exact gx_sub [2, 3, 4, 5, 6, 7, 1, 0] rfl h
        · replace h := h.2 c13
          refine gx_iload_n X (j := 3) dX10_message_70 rfl rfl ?_
          refine gx_if_ne X (tgt := 76) dX10_message_71 (by decide) (fun c12 => ?_) (fun c12 => ?_)
          · replace h := h.1 c12
            refine gx_aload_n X (j := 1) dX10_message_76 rfl rfl ?_
            refine gx_get X k1 rfl iwX10 10 (by decide) mw_531 (v := .ref (ex_ad E (gx_r u7 v0 10))) rfl dX10_message_77 ?_
            refine gx_iload_n X (j := 3) dX10_message_80 rfl rfl ?_
            refine gx_iconst X (v := 1) dX10_message_81 (by decide) ?_
            refine gx_isub X dX10_message_82 ?_
            refine gx_iload X (j := 0) dX10_message_83 rfl ?_
            obtain ⟨k9, h⟩ := h
            obtain ⟨k10, h⟩ := h
            refine gx_iast X k9 k10 dX10_message_85 ?_
            refine gx_nams (fun u11 eu11 => ?_)
            replace h := h u11 eu11
            refine gx_goto X (tgt := 211) dX10_message_86 (by decide) ?_
            refine gx_iload X (j := 0) dX10_message_211 rfl ?_
            refine gx_istore_n X (lv' := [(3, .int r3), (6, .int r3), (0, .ref (ex_ad E v0)), (1, .int v1), (2, .int v2), (4, .int v4), (5, .int v5)]) dX10_message_213 rfl (by decide) rfl ?_
            refine gx_goto X (tgt := 15) dX10_message_214 (by decide) ?_
            exact gx_sub [2, 3, 4, 0, 5, 6] rfl h
          · replace h := h.2 c12
            refine gx_iconst X (v := -1) dX10_message_74 (by decide) ?_
            exact gx_iret X hQ h dX10_message_75
      · replace h := h.2 c15
        refine gx_iload_n X (j := 4) dX10_message_47 rfl rfl ?_
        refine gx_iconst X (v := 1) dX10_message_48 (by decide) ?_
        refine gx_iadd X dX10_message_49 ?_
        refine gx_nami (fun x14 ex14 => ?_)
        replace h := h x14 ex14
        refine gx_istore X (lv' := [(4, .int x14), (6, .int r3), (0, .ref (ex_ad E v0)), (1, .int v1), (2, .int v2), (3, .int v3), (5, .int v5)]) dX10_message_50 (by decide) rfl ?_
        refine gx_iconst X (v := 0) dX10_message_52 (by decide) ?_
        refine gx_istore X (lv' := [(5, .int (0 : Int32)), (4, .int x14), (6, .int r3), (0, .ref (ex_ad E v0)), (1, .int v1), (2, .int v2), (3, .int v3)]) dX10_message_53 (by decide) rfl ?_
        refine gx_goto X (tgt := 211) dX10_message_55 (by decide) ?_
        refine gx_iload X (j := 2) dX10_message_211 rfl ?_
        refine gx_istore_n X (lv' := [(3, .int r3), (5, .int (0 : Int32)), (4, .int x14), (6, .int r3), (0, .ref (ex_ad E v0)), (1, .int v1), (2, .int v2)]) dX10_message_213 rfl (by decide) rfl ?_
        refine gx_goto X (tgt := 15) dX10_message_214 (by decide) ?_
        exact gx_sub [4, 5, 6, 0, 2, 1] rfl h
set_option maxHeartbeats 4000000 in
set_option maxRecDepth 100000 in
theorem w_X10_message_92 {E : gx_E} (X : gx_X E cX10_message 8 RX10 (some .int)) (hd : 2 ≤ ex_d E) {post : Int32 → gx_S → Prop} (hQ : ex_Q E = va_Qi post (gx_B (ex_Z E)) (gx_A (ex_Z E))) {u : gx_S} {v0 : Nat} {v1 : Int32} {v2 : Int32} {v3 : Int32} {v4 : Int32} {v5 : Int32} {v6 : Int32} {v7 : Int32} (h : ((v6 ≤ v7 → J_X10_message_143 E v0 v1 v2 v3 v4 v5 v6 v7 u) ∧ (¬ v6 ≤ v7 → (gx_isO v0 9 ∧ (gx_isR (gx_r u v0 0) .byte ∧ vp_in v7 (gx_len (gx_r u v0 0)) ∧ (S_X10_isLetter u (gx_a u (gx_r u v0 0) v7.toNatClampNeg) (fun (r5 : Int32) (u4 : gx_S) => ((¬ r5 = 0 → (∀ x6 : Int32, x6 = v7 + 1 → J_X10_message_92 E v0 v1 v2 v3 v4 v5 v6 x6 u4)) ∧ (r5 = 0 → (gx_isR (gx_r u4 v0 0) .byte ∧ vp_in v7 (gx_len (gx_r u4 v0 0)) ∧ (S_X10_isDigit u4 (gx_a u4 (gx_r u4 v0 0) v7.toNatClampNeg) (fun (r10 : Int32) (u9 : gx_S) => ((¬ r10 = 0 → (∀ x11 : Int32, x11 = v7 + 1 → J_X10_message_92 E v0 v1 v2 v3 v4 v5 v6 x11 u9)) ∧ (r10 = 0 → (gx_isR (gx_r u9 v0 0) .byte ∧ vp_in v7 (gx_len (gx_r u9 v0 0)) ∧ ((¬ (gx_a u9 (gx_r u9 v0 0) v7.toNatClampNeg) = (45 : Int32) → J_X10_message_143 E v0 v1 v2 v3 v4 v5 v6 v7 u9) ∧ ((gx_a u9 (gx_r u9 v0 0) v7.toNatClampNeg) = (45 : Int32) → (∀ x14 : Int32, x14 = v7 + 1 → J_X10_message_92 E v0 v1 v2 v3 v4 v5 v6 x14 u9)))))))))))))))))) : gx_Wc E 8 92 [(0, .ref (ex_ad E v0)), (1, .int v1), (2, .int v2), (3, .int v3), (4, .int v4), (5, .int v5), (6, .int v6), (7, .int v7)] [] u := by
  refine gx_iload X (j := 7) dX10_message_92 rfl ?_
  refine gx_iload X (j := 6) dX10_message_94 rfl ?_
  refine gx_icmp_ge X (tgt := 143) dX10_message_96 (by decide) (fun c18 => ?_) (fun c18 => ?_)
  · replace h := h.1 c18
    exact gx_sub [0, 1, 2, 3, 4, 5, 6, 7] rfl h
  · replace h := h.2 c18
    refine gx_aload_n X (j := 0) dX10_message_99 rfl rfl ?_
    obtain ⟨k1, h⟩ := h
    refine gx_get X k1 rfl iwX10 0 (by decide) mw_521 (v := .ref (ex_ad E (gx_r u v0 0))) rfl dX10_message_100 ?_
    refine gx_iload X (j := 7) dX10_message_103 rfl ?_
    obtain ⟨k2, h⟩ := h
    obtain ⟨k3, h⟩ := h
    refine gx_bald X k2 k3 dX10_message_105 ?_
    refine gx_ki (gx_rS X (c_X10_isLetter h) (Nat.le_trans (by decide) hd) (Nat.le_trans (by decide) (Nat.mul_le_mul_left 40 hd)) mw_638 mw_639 mw_7 mw_640 hyX10_isLetter (As := [.int (gx_a u (gx_r u v0 0) v7.toNatClampNeg)]) (rest := []) rfl rfl (Nat.le_of_ble_eq_true rfl) dX10_message_106) (fun r5 u4 h => ?_)
    refine gx_if_ne X (tgt := 137) dX10_message_109 (by decide) (fun c17 => ?_) (fun c17 => ?_)
    · replace h := h.1 c17
      obtain ⟨x6, ex6⟩ : ∃ y : Int32, y = v7 + 1 := ⟨_, rfl⟩
      replace h := h x6 ex6
      refine gx_iinc X (v := x6) (lv' := [(7, .int x6), (0, .ref (ex_ad E v0)), (1, .int v1), (2, .int v2), (3, .int v3), (4, .int v4), (5, .int v5), (6, .int v6)]) dX10_message_137 (j := 7) rfl (by rw [ex6]; rfl) (by decide) rfl ?_
      refine gx_goto X (tgt := 92) dX10_message_140 (by decide) ?_
      exact gx_sub [1, 2, 3, 4, 5, 6, 7, 0] rfl h
    · replace h := h.2 c17
      refine gx_aload_n X (j := 0) dX10_message_112 rfl rfl ?_
      refine gx_get X k1 rfl iwX10 0 (by decide) mw_521 (v := .ref (ex_ad E (gx_r u4 v0 0))) rfl dX10_message_113 ?_
      refine gx_iload X (j := 7) dX10_message_116 rfl ?_
      obtain ⟨k7, h⟩ := h
      obtain ⟨k8, h⟩ := h
      refine gx_bald X k7 k8 dX10_message_118 ?_
      refine gx_ki (gx_rS X (c_X10_isDigit h) (Nat.le_trans (by decide) hd) (Nat.le_trans (by decide) (Nat.mul_le_mul_left 40 hd)) mw_644 mw_645 mw_7 mw_646 hyX10_isDigit (As := [.int (gx_a u4 (gx_r u4 v0 0) v7.toNatClampNeg)]) (rest := []) rfl rfl (Nat.le_of_ble_eq_true rfl) dX10_message_119) (fun r10 u9 h => ?_)
      refine gx_if_ne X (tgt := 137) dX10_message_122 (by decide) (fun c16 => ?_) (fun c16 => ?_)
      · replace h := h.1 c16
        obtain ⟨x11, ex11⟩ : ∃ y : Int32, y = v7 + 1 := ⟨_, rfl⟩
        replace h := h x11 ex11
        refine gx_iinc X (v := x11) (lv' := [(7, .int x11), (0, .ref (ex_ad E v0)), (1, .int v1), (2, .int v2), (3, .int v3), (4, .int v4), (5, .int v5), (6, .int v6)]) dX10_message_137 (j := 7) rfl (by rw [ex11]; rfl) (by decide) rfl ?_
        refine gx_goto X (tgt := 92) dX10_message_140 (by decide) ?_
        exact gx_sub [1, 2, 3, 4, 5, 6, 7, 0] rfl h
      · replace h := h.2 c16
        refine gx_aload_n X (j := 0) dX10_message_125 rfl rfl ?_
        refine gx_get X k1 rfl iwX10 0 (by decide) mw_521 (v := .ref (ex_ad E (gx_r u9 v0 0))) rfl dX10_message_126 ?_
        refine gx_iload X (j := 7) dX10_message_129 rfl ?_
        obtain ⟨k12, h⟩ := h
        obtain ⟨k13, h⟩ := h
        refine gx_bald X k12 k13 dX10_message_131 ?_
        refine gx_bipush X (v := 45) dX10_message_132 (by decide) ?_
        refine gx_icmp_ne X (tgt := 143) dX10_message_134 (by decide) (fun c15 => ?_) (fun c15 => ?_)
        · replace h := h.1 c15
          exact gx_sub [0, 1, 2, 3, 4, 5, 6, 7] rfl h
        · replace h := h.2 c15
          obtain ⟨x14, ex14⟩ : ∃ y : Int32, y = v7 + 1 := ⟨_, rfl⟩
          replace h := h x14 ex14
          refine gx_iinc X (v := x14) (lv' := [(7, .int x14), (0, .ref (ex_ad E v0)), (1, .int v1), (2, .int v2), (3, .int v3), (4, .int v4), (5, .int v5), (6, .int v6)]) dX10_message_137 (j := 7) rfl (by rw [ex14]; rfl) (by decide) rfl ?_
          refine gx_goto X (tgt := 92) dX10_message_140 (by decide) ?_
          exact gx_sub [1, 2, 3, 4, 5, 6, 7, 0] rfl h
set_option maxHeartbeats 4000000 in
set_option maxRecDepth 100000 in
theorem w_X10_message_143 {E : gx_E} (X : gx_X E cX10_message 8 RX10 (some .int)) (hd : 2 ≤ ex_d E) {post : Int32 → gx_S → Prop} (hQ : ex_Q E = va_Qi post (gx_B (ex_Z E)) (gx_A (ex_Z E))) {u : gx_S} {v0 : Nat} {v1 : Int32} {v2 : Int32} {v3 : Int32} {v4 : Int32} {v5 : Int32} {v6 : Int32} {v7 : Int32} (h : (S_X10_in u ((v7 - v3)).toInt64 (1 : Int64) (20 : Int64) (fun (r2 : Int32) (u1 : gx_S) => ((r2 = 0 → post (-1 : Int32) u1) ∧ (¬ r2 = 0 → ((v7 = v6 → post (-1 : Int32) u1) ∧ (¬ v7 = v6 → (gx_isO v0 9 ∧ (gx_isR (gx_r u1 v0 0) .byte ∧ vp_in v7 (gx_len (gx_r u1 v0 0)) ∧ ((¬ (gx_a u1 (gx_r u1 v0 0) v7.toNatClampNeg) = (58 : Int32) → post (-1 : Int32) u1) ∧ ((gx_a u1 (gx_r u1 v0 0) v7.toNatClampNeg) = (58 : Int32) → ((¬ v2 = (20 : Int32) → (gx_isA (gx_r u1 v0 8) .int ∧ vp_in v2 (gx_len (gx_r u1 v0 8)) ∧ ∀ u8 : gx_S, u8 = gx_pa u1 (gx_r u1 v0 8) (upd (gx_a u1 (gx_r u1 v0 8)) v2.toNatClampNeg v3) → (gx_isA (gx_r u8 v0 9) .int ∧ vp_in v2 (gx_len (gx_r u8 v0 9)) ∧ ∀ u11 : gx_S, u11 = gx_pa u8 (gx_r u8 v0 9) (upd (gx_a u8 (gx_r u8 v0 9)) v2.toNatClampNeg v7) → (gx_isA (gx_r u11 v0 10) .int ∧ vp_in v2 (gx_len (gx_r u11 v0 10)) ∧ ∀ u14 : gx_S, u14 = gx_pa u11 (gx_r u11 v0 10) (upd (gx_a u11 (gx_r u11 v0 10)) v2.toNatClampNeg v6) → (∀ x15 : Int32, x15 = v2 + 1 → J_X10_message_15 E v0 v1 x15 v6 v4 v5 u14))))) ∧ (v2 = (20 : Int32) → post (-1 : Int32) u1))))))))))))) : gx_Wc E 8 143 [(0, .ref (ex_ad E v0)), (1, .int v1), (2, .int v2), (3, .int v3), (4, .int v4), (5, .int v5), (6, .int v6), (7, .int v7)] [] u := by
  refine gx_iload X (j := 7) dX10_message_143 rfl ?_
  refine gx_iload_n X (j := 3) dX10_message_145 rfl rfl ?_
  refine gx_isub X dX10_message_146 ?_
  refine gx_i2l X (v := ((v7 - v3)).toInt64) dX10_message_147 rfl ?_
  refine gx_lconst X (v := 1) dX10_message_148 (by decide) ?_
  refine gx_ldc2 X (v := 20) mw_647 dX10_message_149 ?_
  refine gx_ki (gx_rS X (c_X10_in h) (Nat.le_trans (by decide) hd) (Nat.le_trans (by decide) (Nat.mul_le_mul_left 40 hd)) mw_618 mw_619 mw_7 mw_620 hyX10_in (As := [.long ((v7 - v3)).toInt64, .long (1 : Int64), .long (20 : Int64)]) (rest := []) rfl rfl (Nat.le_of_ble_eq_true rfl) dX10_message_152) (fun r2 u1 h => ?_)
  refine gx_if_eq X (tgt := 183) dX10_message_155 (by decide) (fun c19 => ?_) (fun c19 => ?_)
  · replace h := h.1 c19
    refine gx_iconst X (v := -1) dX10_message_183 (by decide) ?_
    exact gx_iret X hQ h dX10_message_184
  · replace h := h.2 c19
    refine gx_iload X (j := 7) dX10_message_158 rfl ?_
    refine gx_iload X (j := 6) dX10_message_160 rfl ?_
    refine gx_icmp_eq X (tgt := 183) dX10_message_162 (by decide) (fun c18 => ?_) (fun c18 => ?_)
    · replace h := h.1 c18
      refine gx_iconst X (v := -1) dX10_message_183 (by decide) ?_
      exact gx_iret X hQ h dX10_message_184
    · replace h := h.2 c18
      refine gx_aload_n X (j := 0) dX10_message_165 rfl rfl ?_
      obtain ⟨k3, h⟩ := h
      refine gx_get X k3 rfl iwX10 0 (by decide) mw_521 (v := .ref (ex_ad E (gx_r u1 v0 0))) rfl dX10_message_166 ?_
      refine gx_iload X (j := 7) dX10_message_169 rfl ?_
      obtain ⟨k4, h⟩ := h
      obtain ⟨k5, h⟩ := h
      refine gx_bald X k4 k5 dX10_message_171 ?_
      refine gx_bipush X (v := 58) dX10_message_172 (by decide) ?_
      refine gx_icmp_ne X (tgt := 183) dX10_message_174 (by decide) (fun c17 => ?_) (fun c17 => ?_)
      · replace h := h.1 c17
        refine gx_iconst X (v := -1) dX10_message_183 (by decide) ?_
        exact gx_iret X hQ h dX10_message_184
      · replace h := h.2 c17
        refine gx_iload_n X (j := 2) dX10_message_177 rfl rfl ?_
        refine gx_bipush X (v := 20) dX10_message_178 (by decide) ?_
        refine gx_icmp_ne X (tgt := 185) dX10_message_180 (by decide) (fun c16 => ?_) (fun c16 => ?_)
        · replace h := h.1 c16
          refine gx_aload_n X (j := 0) dX10_message_185 rfl rfl ?_
          refine gx_get X k3 rfl iwX10 8 (by decide) mw_529 (v := .ref (ex_ad E (gx_r u1 v0 8))) rfl dX10_message_186 ?_
          refine gx_iload_n X (j := 2) dX10_message_189 rfl rfl ?_
          refine gx_iload_n X (j := 3) dX10_message_190 rfl rfl ?_
          obtain ⟨k6, h⟩ := h
          obtain ⟨k7, h⟩ := h
          refine gx_iast X k6 k7 dX10_message_191 ?_
          refine gx_nams (fun u8 eu8 => ?_)
          replace h := h u8 eu8
          refine gx_aload_n X (j := 0) dX10_message_192 rfl rfl ?_
          refine gx_get X k3 rfl iwX10 9 (by decide) mw_530 (v := .ref (ex_ad E (gx_r u8 v0 9))) rfl dX10_message_193 ?_
          refine gx_iload_n X (j := 2) dX10_message_196 rfl rfl ?_
          refine gx_iload X (j := 7) dX10_message_197 rfl ?_
          obtain ⟨k9, h⟩ := h
          obtain ⟨k10, h⟩ := h
          refine gx_iast X k9 k10 dX10_message_199 ?_
          refine gx_nams (fun u11 eu11 => ?_)
          replace h := h u11 eu11
          refine gx_aload_n X (j := 0) dX10_message_200 rfl rfl ?_
          refine gx_get X k3 rfl iwX10 10 (by decide) mw_531 (v := .ref (ex_ad E (gx_r u11 v0 10))) rfl dX10_message_201 ?_
          refine gx_iload_n X (j := 2) dX10_message_204 rfl rfl ?_
          refine gx_iload X (j := 6) dX10_message_205 rfl ?_
          obtain ⟨k12, h⟩ := h
          obtain ⟨k13, h⟩ := h
          refine gx_iast X k12 k13 dX10_message_207 ?_
          refine gx_nams (fun u14 eu14 => ?_)
          replace h := h u14 eu14
          obtain ⟨x15, ex15⟩ : ∃ y : Int32, y = v2 + 1 := ⟨_, rfl⟩
          replace h := h x15 ex15
          refine gx_iinc X (v := x15) (lv' := [(2, .int x15), (0, .ref (ex_ad E v0)), (1, .int v1), (3, .int v3), (4, .int v4), (5, .int v5), (6, .int v6), (7, .int v7)]) dX10_message_208 (j := 2) rfl (by rw [ex15]; rfl) (by decide) rfl ?_
          refine gx_iload X (j := 6) dX10_message_211 rfl ?_
          refine gx_istore_n X (lv' := [(3, .int v6), (2, .int x15), (0, .ref (ex_ad E v0)), (1, .int v1), (4, .int v4), (5, .int v5), (6, .int v6), (7, .int v7)]) dX10_message_213 rfl (by decide) rfl ?_
          refine gx_goto X (tgt := 15) dX10_message_214 (by decide) ?_
          exact gx_sub [2, 3, 1, 0, 4, 5] rfl h
        · replace h := h.2 c16
          refine gx_iconst X (v := -1) dX10_message_183 (by decide) ?_
          exact gx_iret X hQ h dX10_message_184
set_option maxHeartbeats 4000000 in
set_option maxRecDepth 100000 in
theorem w_X10_message_217 {E : gx_E} (X : gx_X E cX10_message 8 RX10 (some .int)) (hd : 2 ≤ ex_d E) {post : Int32 → gx_S → Prop} (hQ : ex_Q E = va_Qi post (gx_B (ex_Z E)) (gx_A (ex_Z E))) {u : gx_S} {v0 : Nat} {v1 : Int32} {v2 : Int32} {v3 : Int32} {v4 : Int32} {v5 : Int32} (h : ((¬ v2 = 0 → (gx_isO v0 9 ∧ ∀ u2 : gx_S, u2 = gx_pi u v0 11 v2 → (gx_isR (gx_r u2 v0 8) .int ∧ gx_isA (gx_r u2 v0 5) .int ∧ ¬ (0 : Int32) < 0 ∧ ¬ (0 : Int32) < 0 ∧ ¬ v2 < 0 ∧ (0 : Int32).toNatClampNeg + v2.toNatClampNeg ≤ gx_len (gx_r u2 v0 8) ∧ (0 : Int32).toNatClampNeg + v2.toNatClampNeg ≤ gx_len (gx_r u2 v0 5) ∧ ∀ u10 : gx_S, u10 = gx_pa u2 (gx_r u2 v0 5) (va_cpy (gx_a u2 (gx_r u2 v0 8)) (gx_a u2 (gx_r u2 v0 5)) (0 : Int32).toNatClampNeg (0 : Int32).toNatClampNeg v2.toNatClampNeg) → (gx_isR (gx_r u10 v0 9) .int ∧ gx_isA (gx_r u10 v0 6) .int ∧ ¬ (0 : Int32) < 0 ∧ ¬ (0 : Int32) < 0 ∧ ¬ v2 < 0 ∧ (0 : Int32).toNatClampNeg + v2.toNatClampNeg ≤ gx_len (gx_r u10 v0 9) ∧ (0 : Int32).toNatClampNeg + v2.toNatClampNeg ≤ gx_len (gx_r u10 v0 6) ∧ ∀ u18 : gx_S, u18 = gx_pa u10 (gx_r u10 v0 6) (va_cpy (gx_a u10 (gx_r u10 v0 9)) (gx_a u10 (gx_r u10 v0 6)) (0 : Int32).toNatClampNeg (0 : Int32).toNatClampNeg v2.toNatClampNeg) → (gx_isR (gx_r u18 v0 10) .int ∧ gx_isA (gx_r u18 v0 7) .int ∧ ¬ (0 : Int32) < 0 ∧ ¬ (0 : Int32) < 0 ∧ ¬ v2 < 0 ∧ (0 : Int32).toNatClampNeg + v2.toNatClampNeg ≤ gx_len (gx_r u18 v0 10) ∧ (0 : Int32).toNatClampNeg + v2.toNatClampNeg ≤ gx_len (gx_r u18 v0 7) ∧ ∀ u26 : gx_S, u26 = gx_pa u18 (gx_r u18 v0 7) (va_cpy (gx_a u18 (gx_r u18 v0 10)) (gx_a u18 (gx_r u18 v0 7)) (0 : Int32).toNatClampNeg (0 : Int32).toNatClampNeg v2.toNatClampNeg) → (gx_isR (gx_r u26 v0 0) .byte ∧ gx_isA (gx_r u26 v0 4) .byte ∧ ¬ (0 : Int32) < 0 ∧ ¬ (0 : Int32) < 0 ∧ ¬ v1 < 0 ∧ (0 : Int32).toNatClampNeg + v1.toNatClampNeg ≤ gx_len (gx_r u26 v0 0) ∧ (0 : Int32).toNatClampNeg + v1.toNatClampNeg ≤ gx_len (gx_r u26 v0 4) ∧ ∀ u34 : gx_S, u34 = gx_pa u26 (gx_r u26 v0 4) (va_cpy (gx_a u26 (gx_r u26 v0 0)) (gx_a u26 (gx_r u26 v0 4)) (0 : Int32).toNatClampNeg (0 : Int32).toNatClampNeg v1.toNatClampNeg) → (∀ u35 : gx_S, u35 = gx_pi u34 v0 12 v4 → (∀ u36 : gx_S, u36 = gx_pi u35 v0 13 v1 → (∀ u37 : gx_S, u37 = gx_pi u36 v0 14 (1 : Int32) → post v2 u37))))))))) ∧ (v2 = 0 → post (-1 : Int32) u))) : gx_Wc E 8 217 [(0, .ref (ex_ad E v0)), (1, .int v1), (2, .int v2), (3, .int v3), (4, .int v4), (5, .int v5)] [] u := by
  refine gx_iload_n X (j := 2) dX10_message_217 rfl rfl ?_
  refine gx_if_ne X (tgt := 223) dX10_message_218 (by decide) (fun c38 => ?_) (fun c38 => ?_)
  · replace h := h.1 c38
    refine gx_aload_n X (j := 0) dX10_message_223 rfl rfl ?_
    refine gx_iload_n X (j := 2) dX10_message_224 rfl rfl ?_
    obtain ⟨k1, h⟩ := h
    refine gx_put X k1 rfl iwX10 tyX10_ok nmX10 11 (by decide) mw_532 rfl rfl rfl (fun _ => rfl) dX10_message_225 ?_
    refine gx_nams (fun u2 eu2 => ?_)
    replace h := h u2 eu2
    refine gx_aload_n X (j := 0) dX10_message_228 rfl rfl ?_
    refine gx_get X k1 rfl iwX10 8 (by decide) mw_529 (v := .ref (ex_ad E (gx_r u2 v0 8))) rfl dX10_message_229 ?_
    refine gx_iconst X (v := 0) dX10_message_232 (by decide) ?_
    refine gx_aload_n X (j := 0) dX10_message_233 rfl rfl ?_
    refine gx_get X k1 rfl iwX10 5 (by decide) mw_526 (v := .ref (ex_ad E (gx_r u2 v0 5))) rfl dX10_message_234 ?_
    refine gx_iconst X (v := 0) dX10_message_237 (by decide) ?_
    refine gx_iload_n X (j := 2) dX10_message_238 rfl rfl ?_
    obtain ⟨k3, h⟩ := h
    obtain ⟨k4, h⟩ := h
    obtain ⟨k5, k6, k7, k8, k9, h⟩ := h
    refine gx_copy X (Nat.le_trans (by decide) hd) k3 k4 rfl k5 k6 k7 k8 k9 mw_648 mw_339 mw_338 mw_12 (Nat.le_of_ble_eq_true rfl) dX10_message_239 ?_
    refine gx_nams (fun u10 eu10 => ?_)
    replace h := h u10 eu10
    refine gx_aload_n X (j := 0) dX10_message_242 rfl rfl ?_
    refine gx_get X k1 rfl iwX10 9 (by decide) mw_530 (v := .ref (ex_ad E (gx_r u10 v0 9))) rfl dX10_message_243 ?_
    refine gx_iconst X (v := 0) dX10_message_246 (by decide) ?_
    refine gx_aload_n X (j := 0) dX10_message_247 rfl rfl ?_
    refine gx_get X k1 rfl iwX10 6 (by decide) mw_527 (v := .ref (ex_ad E (gx_r u10 v0 6))) rfl dX10_message_248 ?_
    refine gx_iconst X (v := 0) dX10_message_251 (by decide) ?_
    refine gx_iload_n X (j := 2) dX10_message_252 rfl rfl ?_
    obtain ⟨k11, h⟩ := h
    obtain ⟨k12, h⟩ := h
    obtain ⟨k13, k14, k15, k16, k17, h⟩ := h
    refine gx_copy X (Nat.le_trans (by decide) hd) k11 k12 rfl k13 k14 k15 k16 k17 mw_648 mw_339 mw_338 mw_12 (Nat.le_of_ble_eq_true rfl) dX10_message_253 ?_
    refine gx_nams (fun u18 eu18 => ?_)
    replace h := h u18 eu18
    refine gx_aload_n X (j := 0) dX10_message_256 rfl rfl ?_
    refine gx_get X k1 rfl iwX10 10 (by decide) mw_531 (v := .ref (ex_ad E (gx_r u18 v0 10))) rfl dX10_message_257 ?_
    refine gx_iconst X (v := 0) dX10_message_260 (by decide) ?_
    refine gx_aload_n X (j := 0) dX10_message_261 rfl rfl ?_
    refine gx_get X k1 rfl iwX10 7 (by decide) mw_528 (v := .ref (ex_ad E (gx_r u18 v0 7))) rfl dX10_message_262 ?_
    refine gx_iconst X (v := 0) dX10_message_265 (by decide) ?_
    refine gx_iload_n X (j := 2) dX10_message_266 rfl rfl ?_
    obtain ⟨k19, h⟩ := h
    obtain ⟨k20, h⟩ := h
    obtain ⟨k21, k22, k23, k24, k25, h⟩ := h
    refine gx_copy X (Nat.le_trans (by decide) hd) k19 k20 rfl k21 k22 k23 k24 k25 mw_648 mw_339 mw_338 mw_12 (Nat.le_of_ble_eq_true rfl) dX10_message_267 ?_
    refine gx_nams (fun u26 eu26 => ?_)
    replace h := h u26 eu26
    refine gx_aload_n X (j := 0) dX10_message_270 rfl rfl ?_
    refine gx_get X k1 rfl iwX10 0 (by decide) mw_521 (v := .ref (ex_ad E (gx_r u26 v0 0))) rfl dX10_message_271 ?_
    refine gx_iconst X (v := 0) dX10_message_274 (by decide) ?_
    refine gx_aload_n X (j := 0) dX10_message_275 rfl rfl ?_
    refine gx_get X k1 rfl iwX10 4 (by decide) mw_525 (v := .ref (ex_ad E (gx_r u26 v0 4))) rfl dX10_message_276 ?_
    refine gx_iconst X (v := 0) dX10_message_279 (by decide) ?_
    refine gx_iload_n X (j := 1) dX10_message_280 rfl rfl ?_
    obtain ⟨k27, h⟩ := h
    obtain ⟨k28, h⟩ := h
    obtain ⟨k29, k30, k31, k32, k33, h⟩ := h
    refine gx_copy X (Nat.le_trans (by decide) hd) k27 k28 rfl k29 k30 k31 k32 k33 mw_648 mw_339 mw_338 mw_12 (Nat.le_of_ble_eq_true rfl) dX10_message_281 ?_
    refine gx_nams (fun u34 eu34 => ?_)
    replace h := h u34 eu34
    refine gx_aload_n X (j := 0) dX10_message_284 rfl rfl ?_
    refine gx_iload X (j := 4) dX10_message_285 rfl ?_
    refine gx_put X k1 rfl iwX10 tyX10_ok nmX10 12 (by decide) mw_533 rfl rfl rfl (fun _ => rfl) dX10_message_287 ?_
    refine gx_nams (fun u35 eu35 => ?_)
    replace h := h u35 eu35
    refine gx_aload_n X (j := 0) dX10_message_290 rfl rfl ?_
    refine gx_iload_n X (j := 1) dX10_message_291 rfl rfl ?_
    refine gx_put X k1 rfl iwX10 tyX10_ok nmX10 13 (by decide) mw_534 rfl rfl rfl (fun _ => rfl) dX10_message_292 ?_
    refine gx_nams (fun u36 eu36 => ?_)
    replace h := h u36 eu36
    refine gx_aload_n X (j := 0) dX10_message_295 rfl rfl ?_
    refine gx_iconst X (v := 1) dX10_message_296 (by decide) ?_
    refine gx_put X k1 rfl iwX10 tyX10_ok nmX10 14 (by decide) mw_535 rfl rfl rfl (fun _ => rfl) dX10_message_297 ?_
    refine gx_nams (fun u37 eu37 => ?_)
    replace h := h u37 eu37
    refine gx_iload_n X (j := 2) dX10_message_300 rfl rfl ?_
    exact gx_iret X hQ h dX10_message_301
  · replace h := h.2 c38
    refine gx_iconst X (v := -1) dX10_message_221 (by decide) ?_
    exact gx_iret X hQ h dX10_message_222
-- lines
theorem leF_ok {L : List Nat} : ∀ n i, n = L.length - i → i < L.length → i < leF L n i ∧ leF L n i ≤ L.length ∧ (∀ j, i ≤ j → j + 1 < leF L n i → ch L j ≠ 10) ∧ (ch L (leF L n i - 1) = 10 ∨ (leF L n i = L.length ∧ ∀ j, i ≤ j → j < L.length → ch L j ≠ 10))
  | 0, i, h, hi => by omega
  | n + 1, i, h, hi => by
    unfold leF
    by_cases e : ch L i = 10
    · rw [if_pos e]
      exact ⟨by omega, by omega, fun j h1 h2 => by omega, Or.inl (by rw [Nat.add_sub_cancel]; exact e)⟩
    · rw [if_neg e]
      by_cases e2 : i + 1 < L.length
      · obtain ⟨a1, a2, a3, a4⟩ := leF_ok (L := L) n (i + 1) (by omega) e2
        refine ⟨by omega, a2, fun j h1 h2 => ?_, ?_⟩
        · by_cases ej : j = i
          · rw [ej]; exact e
          · exact a3 j (by omega) h2
        · rcases a4 with a4 | ⟨a4, a5⟩
          · exact Or.inl a4
          · refine Or.inr ⟨a4, fun j h1 h2 => ?_⟩
            by_cases ej : j = i
            · rw [ej]; exact e
            · exact a5 j (by omega) h2
      · have en : n = 0 := by omega
        subst en
        unfold leF
        refine ⟨hi, Nat.le_refl _, fun j h1 h2 => ?_, Or.inr ⟨rfl, fun j h1 h2 => ?_⟩⟩
        · rw [show j = i by omega]; exact e
        · rw [show j = i by omega]; exact e
theorem le_ok {L : List Nat} {i : Nat} (hi : i < L.length) : i < le_ L i ∧ le_ L i ≤ L.length ∧ (∀ j, i ≤ j → j + 1 < le_ L i → ch L j ≠ 10) ∧ (ch L (le_ L i - 1) = 10 ∨ (le_ L i = L.length ∧ ∀ j, i ≤ j → j < L.length → ch L j ≠ 10)) := leF_ok _ i rfl hi
/-- where a field goes on from the beginning of a line -/
def pend (L : List Nat) (i : Nat) : Nat := if isW (ch L i) = true then fst_ L i else i
theorem pend_end {L : List Nat} {i : Nat} (h : L.length ≤ i) : pend L i = i := by
  unfold pend
  rw [ch_ge h]
  rfl
theorem fst_step {L : List Nat} : ∀ n i, n = L.length - i → i < L.length → fstF L n i = pend L (leF L n i)
  | 0, i, h, hi => by omega
  | n + 1, i, h, hi => by
    unfold fstF leF
    by_cases e : ch L i = 10
    · rw [if_pos e]
      unfold pend
      cases hw : isW (ch L (i + 1)) with
      | false => rw [if_pos ⟨e, rfl⟩, if_neg (by decide)]
      | true =>
        rw [if_neg (fun z => by cases z.2), if_pos rfl]
        unfold fst_
        rw [show n = L.length - (i + 1) by omega]
    · rw [if_neg e, if_neg (fun z => e z.1)]
      by_cases e2 : i + 1 < L.length
      · exact fst_step n (i + 1) (by omega) e2
      · have en : n = 0 := by omega
        subst en
        unfold fstF leF
        exact (pend_end (Nat.le_refl _)).symm
theorem fst_pend {L : List Nat} {i : Nat} (hi : i < L.length) : fst_ L i = pend L (le_ L i) := fst_step _ i rfl hi
theorem runF_val {p : Nat → Bool} {L : List Nat} : ∀ n m i, (∀ j, i ≤ j → j < i + m → p (ch L j) = true) → m ≤ n → (m = n ∨ p (ch L (i + m)) = false) → runF p L n i = m
  | 0, m, i, _, h2, _ => by unfold runF; omega
  | n + 1, m, i, h1, h2, h3 => by
    unfold runF
    cases m with
    | zero =>
      rcases h3 with h3 | h3
      · omega
      · rw [Nat.add_zero] at h3
        rw [if_neg (by rw [h3]; decide)]
    | succ m =>
      rw [if_pos (h1 i (Nat.le_refl _) (by omega)), runF_val n m (i + 1) (fun j a b => h1 j (by omega) (by omega)) (by omega) (by
        rcases h3 with h3 | h3
        · exact Or.inl (by omega)
        · refine Or.inr ?_
          rw [show i + 1 + m = i + (m + 1) by omega]; exact h3)]
theorem isN_58 {c : Nat} (h : isN c = true) : c ≠ 58 ∧ c ≠ 10 ∧ c < 256 := by
  unfold isN isS isG isD at h
  simp at h
  omega
theorem nameLen_run {T : List Nat} {a K : Nat} (hK : a ≤ K) (h1 : ∀ j, a ≤ j → j < K → isN (ch T j) = true) (h2 : isN (ch T K) = false) : nameLen T a = if K - a ≤ 20 ∧ ch T K = 58 then K - a else 0 := by
  unfold nameLen
  by_cases h20 : K - a ≤ 20
  · have e : runF isN T 20 a = K - a := runF_val 20 (K - a) a (fun j x y => h1 j x (by omega)) h20 (Or.inr (by rw [show a + (K - a) = K by omega]; exact h2))
    rw [e, show a + (K - a) = K by omega]
    by_cases h5 : ch T K = 58
    · rw [if_pos h5, if_pos ⟨h20, h5⟩]
    · rw [if_neg h5, if_neg (fun z => h5 z.2)]
  · have e : runF isN T 20 a = 20 := runF_val 20 20 a (fun j x y => h1 j x (by omega)) (Nat.le_refl _) (Or.inl rfl)
    rw [e, if_neg (fun z => (isN_58 (h1 (a + 20) (by omega) (by omega))).1 z), if_neg (fun z => h20 z.1)]
-- the model's state
def mo (u : gx_S) (O : List Nat) : Prop := gx_i u 21 2 = nI O.length ∧ O.length ≤ 2000 ∧ rdb O (gx_a u 29)
/-- where the body begins -/
def bdy (M : List Nat) (k : Nat) : Nat := if plc M k < M.length then plc M k + 1 else M.length
def mm (u : gx_S) (M : List Nat) (k : Nat) : Prop := (k = 0 ∧ gx_i u 21 14 = 0) ∨ (k ≠ 0 ∧ gx_i u 21 14 = 1 ∧ gx_i u 21 11 = nI k ∧ k ≤ 20 ∧ rdb M (gx_a u 30) ∧ M.length ≤ 2000 ∧ gx_i u 21 13 = nI M.length ∧ gx_i u 21 12 = nI (bdy M k) ∧ ∀ j, j < k → gx_a u 31 j = nI (plc M j) ∧ gx_a u 32 j = nI (plc M j + nameLen M (plc M j)) ∧ gx_a u 33 j = nI (plc M (j + 1)))
/-- where tag i begins -/
def frp (G : List Nat) : Nat → Nat
  | 0 => 0
  | i + 1 => fnd G 59 (frp G i) + 1
def tbx (t : Nat) : Nat := if t = 23 then 38 else 42
def mg (u : gx_S) (t : Nat) (G : List Nat) : Prop := ∃ n, gx_i u t 4 = nI n ∧ n ≤ 40 ∧ (n = 0 → G = []) ∧ (n ≠ 0 → n = ct G) ∧ G.length ≤ 2000 ∧ rdb G (gx_a u (tbx t)) ∧ ∀ i, i < n → gx_a u (tbx t + 1) i = nI (frp G i) ∧ gx_a u (tbx t + 2) i = nI (frp G i + lettLen G (frp G i)) ∧ gx_a u (tbx t + 3) i = nI (fnd G 59 (frp G i))
def mh (u : gx_S) (HC KC : Nat → Int32) : Prop := (∀ j, j < 8 → gx_a u 47 j = HC j) ∧ ∀ j, j < 64 → gx_a u 50 j = KC j
def mS (u : gx_S) (t : Nat) (T O M : List Nat) (k : Nat) (G : List Nat) (HC KC : Nat → Int32) : Prop := (t = 23 ∨ t = 25) ∧ mfix t u ∧ mt u T ∧ mo u O ∧ mm u M k ∧ mg u t G ∧ mh u HC KC
theorem mt_ex {A : List Nat} {F : List (Nat × Nat)} {u v : gx_S} {T : List Nat} (h : exG A F u v) (hA : 28 ∉ A) (hF : (21, 1) ∉ F) (m : mt u T) : mt v T := ⟨by rw [h.1 21 1 hF]; exact m.1, m.2.1, by rw [h.2.2 28 hA]; exact m.2.2⟩
theorem mo_ex {A : List Nat} {F : List (Nat × Nat)} {u v : gx_S} {T : List Nat} (h : exG A F u v) (hA : 29 ∉ A) (hF : (21, 2) ∉ F) (m : mo u T) : mo v T := ⟨by rw [h.1 21 2 hF]; exact m.1, m.2.1, by rw [h.2.2 29 hA]; exact m.2.2⟩
theorem mm_ex {A : List Nat} {F : List (Nat × Nat)} {u v : gx_S} {M : List Nat} {k : Nat} (h : exG A F u v) (hA : 30 ∉ A ∧ 31 ∉ A ∧ 32 ∉ A ∧ 33 ∉ A) (hF : (21, 11) ∉ F ∧ (21, 12) ∉ F ∧ (21, 13) ∉ F ∧ (21, 14) ∉ F) (m : mm u M k) : mm v M k := by
  unfold mm at m ⊢
  rw [h.1 21 14 hF.2.2.2, h.1 21 11 hF.1, h.1 21 13 hF.2.2.1, h.1 21 12 hF.2.1, h.2.2 30 hA.1, h.2.2 31 hA.2.1, h.2.2 32 hA.2.2.1, h.2.2 33 hA.2.2.2]
  exact m
theorem mg_ex {A : List Nat} {F : List (Nat × Nat)} {u v : gx_S} {t : Nat} {G : List Nat} (h : exG A F u v) (hA : ∀ a, 38 ≤ a → a ≤ 45 → a ∉ A) (hF : (t, 4) ∉ F) (m : mg u t G) : mg v t G := by
  have hb : 38 ≤ tbx t ∧ tbx t ≤ 42 := by unfold tbx; split <;> omega
  unfold mg at m ⊢
  rw [h.1 t 4 hF, h.2.2 (tbx t) (hA _ (by omega) (by omega)), h.2.2 (tbx t + 1) (hA _ (by omega) (by omega)), h.2.2 (tbx t + 2) (hA _ (by omega) (by omega)), h.2.2 (tbx t + 3) (hA _ (by omega) (by omega))]
  exact m
theorem mh_ex {A : List Nat} {F : List (Nat × Nat)} {u v : gx_S} {HC KC : Nat → Int32} (h : exG A F u v) (hA : 47 ∉ A ∧ 50 ∉ A) (m : mh u HC KC) : mh v HC KC := by
  unfold mh at m ⊢
  rw [h.2.2 47 hA.1, h.2.2 50 hA.2]
  exact m
/-- nothing but the model's own cells is new -/
def exM (u v : gx_S) : Prop := (∀ o k, o < 21 → gx_i v o k = gx_i u o k) ∧ (∀ o k, o < 21 → gx_r v o k = gx_r u o k) ∧ ∀ a, (a < 21 ∨ 60 ≤ a) → gx_a v a = gx_a u a
theorem exM_tr {u v w : gx_S} (h : exM u v) (h2 : exM v w) : exM u w := ⟨fun o k ho => (h2.1 o k ho).trans (h.1 o k ho), fun o k ho => (h2.2.1 o k ho).trans (h.2.1 o k ho), fun a ha => (h2.2.2 a ha).trans (h.2.2 a ha)⟩
theorem exM_rf (u : gx_S) : exM u u := ⟨fun _ _ _ => rfl, fun _ _ _ => rfl, fun _ _ => rfl⟩
theorem exM_of {A : List Nat} {F : List (Nat × Nat)} {u v : gx_S} (h : exG A F u v) (hA : ∀ a ∈ A, 21 ≤ a ∧ a < 60) (hF : ∀ q ∈ F, 21 ≤ q.1) : exM u v := ⟨fun o k ho => h.1 o k (fun e => by have := hF _ e; omega), fun o k _ => h.2.1 o k, fun a ha => h.2.2 a (fun e => by have := hA a e; omega)⟩
theorem t4 {t : Nat} (h : t = 23 ∨ t = 25) {o k : Nat} (ho : o = 21 ∨ o = 22) : ((t, 4) : Nat × Nat) ≠ (o, k) := by
  intro e
  have := congrArg Prod.fst e
  simp at this
  omega
-- the model's tape alone is new
theorem mS_t {u v : gx_S} {t k : Nat} {T O M G T' : List Nat} {HC KC : Nat → Int32} (h : mS u t T O M k G HC KC) (hx : exG [28] [(21, 1)] u v) (hT : mt v T') : mS v t T' O M k G HC KC ∧ exM u v := by
  obtain ⟨h0, h1, h2, h3, h4, h5, h6⟩ := h
  exact ⟨⟨h0, exG_mfix hx h1, hT, mo_ex hx (by decide) (by decide) h3, mm_ex hx (by decide) (by decide) h4, mg_ex hx (by intro a h1 h2 e; simp at e; omega) (by rcases h0 with rfl | rfl <;> decide) h5, mh_ex hx (by decide) h6⟩, exM_of hx (by decide) (by decide)⟩
theorem q_feed {u : gx_S} {t k : Nat} {T O M G : List Nat} {HC KC : Nat → Int32} {a b c d e : Int32} {post : Int32 → gx_S → Prop} (h : mS u t T O M k G HC KC) (h1 : T.length + 20 ≤ 2000 → ∀ v, exM u v → mS v t (T ++ fdB a b c d e) O M k G HC KC → post (nI (T.length + 20)) v) (h2 : ¬ T.length + 20 ≤ 2000 → post (-3) u) : S_X10_feed u 21 a b c d e post := by
  have hT := h.2.2.1
  unfold S_X10_feed
  rw [hT.1, show (20 : Int32) = nI 20 from rfl, show (2000 : Int32) = nI 2000 from rfl, nI_add, nI_leI (by have := hT.2.1; omega) (by omega)]
  refine ⟨isO21, fun q => ?_, fun q => h2 q⟩
  refine ⟨rfl, t, T, h.2.1, hT, by omega, fun v1 x1 m1 => ?_⟩
  have s1 := mS_t h x1 m1
  refine ⟨rfl, t, _, s1.1.2.1, m1, by simp [wB]; omega, fun v2 x2 m2 => ?_⟩
  have s2 := mS_t s1.1 x2 m2
  refine ⟨rfl, t, _, s2.1.2.1, m2, by simp [wB]; omega, fun v3 x3 m3 => ?_⟩
  have s3 := mS_t s2.1 x3 m3
  refine ⟨rfl, t, _, s3.1.2.1, m3, by simp [wB]; omega, fun v4 x4 m4 => ?_⟩
  have s4 := mS_t s3.1 x4 m4
  refine ⟨rfl, t, _, s4.1.2.1, m4, by simp [wB]; omega, fun v5 x5 m5 => ?_⟩
  have s5 := mS_t s4.1 x5 m5
  have ee : T ++ wB a ++ wB b ++ wB c ++ wB d ++ wB e = T ++ fdB a b c d e := by simp [fdB]
  show post (gx_i v5 21 1) v5
  rw [m5.1, show (T ++ wB a ++ wB b ++ wB c ++ wB d ++ wB e).length = T.length + 20 by simp [wB]]
  rw [ee] at s5
  exact h1 q v5 (exM_tr s1.2 (exM_tr s2.2 (exM_tr s3.2 (exM_tr s4.2 s5.2)))) s5.1
theorem mt_cut {u : gx_S} {T : List Nat} {n : Nat} (h : mt u T) (hn : n ≤ T.length) : mt (gx_pi u 21 1 (nI n)) (T.take n) := ⟨by rw [gx_i_pi, if_pos ⟨rfl, rfl⟩, List.length_take, Nat.min_eq_left hn], by have := h.2.1; rw [List.length_take]; omega, rdb_take h.2.2 n⟩
theorem q_end {u : gx_S} {t k : Nat} {T O M G : List Nat} {HC KC : Nat → Int32} {x : Int32} {post : Int32 → gx_S → Prop} (h : mS u t T O M k G HC KC) (h1 : ∀ n, n ≤ T.length → x = nI n → ∀ v, exM u v → mS v t (T.take n) O M k G HC KC → post x v) (h2 : (x < 0 ∨ nI T.length < x) → post (-1) u) : S_X10_end u 21 x post := by
  have hT := h.2.2.1
  have hT2 := hT.2.1
  have hr := i32_r x
  unfold S_X10_end
  rw [hT.1, i2l_ x, show (0 : Int64) = lz 0 from rfl, i2l_ (nI T.length), nI_toInt (by omega)]
  refine ⟨isO21, i_X10_in (by omega) (by omega) (by omega) ⟨fun q => ?_, fun q => ?_⟩⟩
  · have q2 := b2_n0 q
    have hx : 0 ≤ x.toInt ∧ x.toInt ≤ (T.length : Int) := by simpa using q2
    have h0 : ¬ x < 0 := by rw [Int32.lt_iff_toInt_lt, show (0 : Int32).toInt = 0 from rfl]; omega
    obtain ⟨n, hn, rfl⟩ := nI_of h0
    rw [nI_toInt hn] at hx
    rintro u4 rfl
    have hx2 : exG [28] [(21, 1)] u (gx_pi u 21 1 (nI n)) := exG_pi _ _ (by simp)
    have s := mS_t h hx2 (mt_cut hT (n := n) (by omega))
    exact h1 n (by omega) rfl _ s.2 s.1
  · rw [b2_0] at q
    have hx : ¬ (0 ≤ x.toInt ∧ x.toInt ≤ (T.length : Int)) := by simpa using q
    refine h2 ?_
    rw [Int32.lt_iff_toInt_lt, Int32.lt_iff_toInt_lt, nI_toInt (by omega), show (0 : Int32).toInt = 0 from rfl]
    omega
theorem isA29 : gx_isA 29 .byte := ⟨by decide, rfl⟩
theorem q_octet {u : gx_S} {t k : Nat} {T O M G : List Nat} {HC KC : Nat → Int32} {x : Int32} {post : Int32 → gx_S → Prop} (h : mS u t T O M k G HC KC) (h1 : x = -1 → post (nI O.length) u) (h2 : ∀ j, x = nI j → j < 2 ^ 31 → post (cI (ch O j)) u) (h3 : x < 0 → x ≠ -1 → post (-2) u) : S_X10_octet u 21 x post := by
  have hO := h.2.2.2.1
  have hO2 := hO.2.1
  have hr := i32_r x
  have e : (nI O.length - (1 : Int32)).toInt = (O.length : Int) - 1 := pk_sub_toInt (b := 1) (by omega) (by omega)
  unfold S_X10_octet
  rw [hO.1, i2l_ x, show (-1 : Int64) = lz (-1) from rfl, i2l_ (nI O.length - 1), e]
  refine ⟨isO21, i_X10_in (by omega) (by omega) (by omega) ⟨fun q => ?_, fun q => ?_⟩⟩
  · have q2 := b2_n0 q
    have hx : -1 ≤ x.toInt ∧ x.toInt ≤ (O.length : Int) - 1 := by simpa using q2
    rw [show gx_r u 21 3 = 29 from h.2.1 21 3 (by decide) (by decide)]
    refine ⟨fun q3 => ?_, fun q3 => ?_⟩
    · have h0 : ¬ x < 0 := Int32.not_lt.mpr q3
      obtain ⟨n, hn, rfl⟩ := nI_of h0
      rw [nI_toInt hn] at hx
      have h5 := h2 n rfl hn
      rw [cI_lo (ch_lt hO.2.2.1 (by omega))] at h5
      refine ⟨isA29.r, vp_in_nI (N := 4000) (by omega) (by omega), ?_⟩
      rw [nI_clamp hn, rdb_at hO.2.2 (by omega)]
      exact h5
    · rw [hO.1]
      refine h1 (Int32.toInt_inj.mp ?_)
      rw [show (-1 : Int32).toInt = -1 by decide]
      rw [Int32.le_iff_toInt_le, show (0 : Int32).toInt = 0 from rfl] at q3
      omega
  · rw [b2_0] at q
    have hx : ¬ (-1 ≤ x.toInt ∧ x.toInt ≤ (O.length : Int) - 1) := by simpa using q
    by_cases h0 : x < 0
    · refine h3 h0 (fun e9 => hx ?_)
      rw [e9, show (-1 : Int32).toInt = -1 by decide]
      omega
    · obtain ⟨n, hn, rfl⟩ := nI_of h0
      rw [nI_toInt hn] at hx
      have h5 := h2 n rfl hn
      rw [ch_ge (by omega)] at h5
      exact h5

-- PlainSealModel.plainField(IZ)I
theorem dX10_plainField_0 : decode cX10_plainField 0 = .ok (.aload_n 0, 1) := by decide +kernel
theorem dX10_plainField_1 : decode cX10_plainField 1 = .ok (.getfield 146, 3) := by decide +kernel
theorem dX10_plainField_4 : decode cX10_plainField 4 = .ok (.ifCond .eq 19, 3) := by decide +kernel
theorem dX10_plainField_7 : decode cX10_plainField 7 = .ok (.iload_n 1, 1) := by decide +kernel
theorem dX10_plainField_8 : decode cX10_plainField 8 = .ok (.i2l, 1) := by decide +kernel
theorem dX10_plainField_9 : decode cX10_plainField 9 = .ok (.lconst 0, 1) := by decide +kernel
theorem dX10_plainField_10 : decode cX10_plainField 10 = .ok (.aload_n 0, 1) := by decide +kernel
theorem dX10_plainField_11 : decode cX10_plainField 11 = .ok (.getfield 131, 3) := by decide +kernel
theorem dX10_plainField_14 : decode cX10_plainField 14 = .ok (.iconst 1, 1) := by decide +kernel
theorem dX10_plainField_15 : decode cX10_plainField 15 = .ok (.isub, 1) := by decide +kernel
theorem dX10_plainField_16 : decode cX10_plainField 16 = .ok (.i2l, 1) := by decide +kernel
theorem dX10_plainField_17 : decode cX10_plainField 17 = .ok (.invokestatic 102, 3) := by decide +kernel
theorem dX10_plainField_20 : decode cX10_plainField 20 = .ok (.ifCond .ne 6, 3) := by decide +kernel
theorem dX10_plainField_23 : decode cX10_plainField 23 = .ok (.bipush (-2), 2) := by decide +kernel
theorem dX10_plainField_25 : decode cX10_plainField 25 = .ok (.ireturn, 1) := by decide +kernel
theorem dX10_plainField_26 : decode cX10_plainField 26 = .ok (.aload_n 0, 1) := by decide +kernel
theorem dX10_plainField_27 : decode cX10_plainField 27 = .ok (.getfield 47, 3) := by decide +kernel
theorem dX10_plainField_30 : decode cX10_plainField 30 = .ok (.iconst 0, 1) := by decide +kernel
theorem dX10_plainField_31 : decode cX10_plainField 31 = .ok (.putfield 150, 3) := by decide +kernel
theorem dX10_plainField_34 : decode cX10_plainField 34 = .ok (.aload_n 0, 1) := by decide +kernel
theorem dX10_plainField_35 : decode cX10_plainField 35 = .ok (.iload_n 1, 1) := by decide +kernel
theorem dX10_plainField_36 : decode cX10_plainField 36 = .ok (.iload_n 2, 1) := by decide +kernel
theorem dX10_plainField_37 : decode cX10_plainField 37 = .ok (.iconst 0, 1) := by decide +kernel
theorem dX10_plainField_38 : decode cX10_plainField 38 = .ok (.iconst 0, 1) := by decide +kernel
theorem dX10_plainField_39 : decode cX10_plainField 39 = .ok (.invokevirtual 177, 3) := by decide +kernel
theorem dX10_plainField_42 : decode cX10_plainField 42 = .ok (.aload_n 0, 1) := by decide +kernel
theorem dX10_plainField_43 : decode cX10_plainField 43 = .ok (.aload_n 0, 1) := by decide +kernel
theorem dX10_plainField_44 : decode cX10_plainField 44 = .ok (.getfield 47, 3) := by decide +kernel
theorem dX10_plainField_47 : decode cX10_plainField 47 = .ok (.invokevirtual 173, 3) := by decide +kernel
theorem dX10_plainField_50 : decode cX10_plainField 50 = .ok (.ireturn, 1) := by decide +kernel
theorem hyX10_plainField : yX10_plainField.cls ≠ "java/lang/invoke/MethodHandle" ∧ yX10_plainField.cls ≠ "java/lang/invoke/VarHandle" ∧ (parseMethodDescriptor yX10_plainField.desc).map (fun d => d.parameters.length) = some 2 := by decide +kernel
def S_X10_plainField (u : gx_S) (v0 : Nat) (v1 : Int32) (v2 : Int32) (post : Int32 → gx_S → Prop) : Prop := (gx_isO v0 9 ∧ (((gx_i u v0 14) = 0 → post (-2 : Int32) u) ∧ (¬ (gx_i u v0 14) = 0 → (S_X10_in u (v1).toInt64 (0 : Int64) (((gx_i u v0 11) - (1 : Int32))).toInt64 (fun (r3 : Int32) (u2 : gx_S) => ((¬ r3 = 0 → (gx_isO (gx_r u2 v0 15) 8 ∧ ∀ u5 : gx_S, u5 = gx_pi u2 (gx_r u2 v0 15) 1 (0 : Int32) → (S_X10_fieldPlain u5 v0 v1 v2 (0 : Int32) (0 : Int32) (fun (u6 : gx_S) => (S_X10_tell u6 v0 (gx_r u6 v0 15) (fun (r8 : Int32) (u7 : gx_S) => post r8 u7)))))) ∧ (r3 = 0 → post (-2 : Int32) u2)))))))
set_option maxHeartbeats 4000000 in
set_option maxRecDepth 100000 in
theorem w_X10_plainField {E : gx_E} (X : gx_X E cX10_plainField 3 RX10 (some .int)) (hd : 2 ≤ ex_d E) {post : Int32 → gx_S → Prop} (hQ : ex_Q E = va_Qi post (gx_B (ex_Z E)) (gx_A (ex_Z E))) {u : gx_S} {v0 : Nat} {v1 : Int32} {v2 : Int32} (h : S_X10_plainField u v0 v1 v2 post) : gx_Wc E 3 0 [(0, .ref (ex_ad E v0)), (1, .int v1), (2, .int v2)] [] u := by
  unfold S_X10_plainField at h
  refine gx_aload_n X (j := 0) dX10_plainField_0 rfl rfl ?_
  obtain ⟨k1, h⟩ := h
  refine gx_get X k1 rfl iwX10 14 (by decide) mw_535 (v := .int (gx_i u v0 14)) rfl dX10_plainField_1 ?_
  refine gx_if_eq X (tgt := 23) dX10_plainField_4 (by decide) (fun c10 => ?_) (fun c10 => ?_)
  · replace h := h.1 c10
    refine gx_bipush X (v := -2) dX10_plainField_23 (by decide) ?_
    exact gx_iret X hQ h dX10_plainField_25
  · replace h := h.2 c10
    refine gx_iload_n X (j := 1) dX10_plainField_7 rfl rfl ?_
    refine gx_i2l X (v := (v1).toInt64) dX10_plainField_8 rfl ?_
    refine gx_lconst X (v := 0) dX10_plainField_9 (by decide) ?_
    refine gx_aload_n X (j := 0) dX10_plainField_10 rfl rfl ?_
    refine gx_get X k1 rfl iwX10 11 (by decide) mw_532 (v := .int (gx_i u v0 11)) rfl dX10_plainField_11 ?_
    refine gx_iconst X (v := 1) dX10_plainField_14 (by decide) ?_
    refine gx_isub X dX10_plainField_15 ?_
    refine gx_i2l X (v := (((gx_i u v0 11) - (1 : Int32))).toInt64) dX10_plainField_16 rfl ?_
    refine gx_ki (gx_rS X (c_X10_in h) (Nat.le_trans (by decide) hd) (Nat.le_trans (by decide) (Nat.mul_le_mul_left 40 hd)) mw_618 mw_619 mw_7 mw_620 hyX10_in (As := [.long (v1).toInt64, .long (0 : Int64), .long (((gx_i u v0 11) - (1 : Int32))).toInt64]) (rest := []) rfl rfl (Nat.le_of_ble_eq_true rfl) dX10_plainField_17) (fun r3 u2 h => ?_)
    refine gx_if_ne X (tgt := 26) dX10_plainField_20 (by decide) (fun c9 => ?_) (fun c9 => ?_)
    · replace h := h.1 c9
      refine gx_aload_n X (j := 0) dX10_plainField_26 rfl rfl ?_
      refine gx_get X k1 rfl iwX10 15 (by decide) mw_536 (v := .ref (ex_ad E (gx_r u2 v0 15))) rfl dX10_plainField_27 ?_
      refine gx_iconst X (v := 0) dX10_plainField_30 (by decide) ?_
      obtain ⟨k4, h⟩ := h
      refine gx_put X k4 rfl iwX9 tyX9_ok nmX9 1 (by decide) mw_444 rfl rfl rfl (fun _ => rfl) dX10_plainField_31 ?_
      refine gx_nams (fun u5 eu5 => ?_)
      replace h := h u5 eu5
      refine gx_aload_n X (j := 0) dX10_plainField_34 rfl rfl ?_
      refine gx_iload_n X (j := 1) dX10_plainField_35 rfl rfl ?_
      refine gx_iload_n X (j := 2) dX10_plainField_36 rfl rfl ?_
      refine gx_iconst X (v := 0) dX10_plainField_37 (by decide) ?_
      refine gx_iconst X (v := 0) dX10_plainField_38 (by decide) ?_
      refine gx_kv (gx_rV X (c_X10_fieldPlain h) (Nat.le_trans (by decide) hd) (Nat.le_trans (by decide) (Nat.mul_le_mul_left 40 hd)) k1 rfl mw_669 mw_671 mp_15 mw_7 mw_672 hyX10_fieldPlain (As := [.int v1, .int v2, .int (0 : Int32), .int (0 : Int32)]) (rest := []) rfl rfl (Nat.le_of_ble_eq_true rfl) dX10_plainField_39) (fun u6 h => ?_)
      refine gx_aload_n X (j := 0) dX10_plainField_42 rfl rfl ?_
      refine gx_aload_n X (j := 0) dX10_plainField_43 rfl rfl ?_
      refine gx_get X k1 rfl iwX10 15 (by decide) mw_536 (v := .ref (ex_ad E (gx_r u6 v0 15))) rfl dX10_plainField_44 ?_
      refine gx_ki (gx_rV X (c_X10_tell h) (Nat.le_trans (by decide) hd) (Nat.le_trans (by decide) (Nat.mul_le_mul_left 40 hd)) k1 rfl mw_661 mw_663 mp_14 mw_7 mw_664 hyX10_tell (As := [.ref (ex_ad E (gx_r u6 v0 15))]) (rest := []) rfl rfl (Nat.le_of_ble_eq_true rfl) dX10_plainField_47) (fun r8 u7 h => ?_)
      exact gx_iret X hQ h dX10_plainField_50
    · replace h := h.2 c9
      refine gx_bipush X (v := -2) dX10_plainField_23 (by decide) ?_
      exact gx_iret X hQ h dX10_plainField_25
theorem c_X10_plainField {l : Launch} {Z : gx_Z} {u : gx_S} {v0 : Nat} {v1 : Int32} {v2 : Int32} {post : Int32 → gx_S → Prop} (h : S_X10_plainField u v0 v1 v2 post) : Met l yX10_plainField (Cond.code yX10_plainField cX10_plainField 3 (some .int) :: gx_TB) (gx_rm 2) (gx_Pre Z u [.ref (Z.2.1 v0), .int v1, .int v2]) (va_Qi post (gx_B Z) (gx_A Z)) 0 0 (gx_A Z) := by
  refine gx_met (by decide +kernel) (Nat.le_of_ble_eq_true rfl) ?_
  intro E X hZ hQ hD hL
  subst hZ
  exact w_X10_plainField X (Nat.le_of_eq hD.symm) hQ h
-- PlainSealModel.named()I
theorem dX10_named_0 : decode cX10_named 0 = .ok (.aload_n 0, 1) := by decide +kernel
theorem dX10_named_1 : decode cX10_named 1 = .ok (.invokevirtual 112, 3) := by decide +kernel
theorem dX10_named_4 : decode cX10_named 4 = .ok (.istore_n 1, 1) := by decide +kernel
theorem dX10_named_5 : decode cX10_named 5 = .ok (.iconst 0, 1) := by decide +kernel
theorem dX10_named_6 : decode cX10_named 6 = .ok (.istore_n 2, 1) := by decide +kernel
theorem dX10_named_7 : decode cX10_named 7 = .ok (.aload_n 0, 1) := by decide +kernel
theorem dX10_named_8 : decode cX10_named 8 = .ok (.getfield 146, 3) := by decide +kernel
theorem dX10_named_11 : decode cX10_named 11 = .ok (.ifCond .ne 6, 3) := by decide +kernel
theorem dX10_named_14 : decode cX10_named 14 = .ok (.bipush (-2), 2) := by decide +kernel
theorem dX10_named_16 : decode cX10_named 16 = .ok (.ireturn, 1) := by decide +kernel
theorem dX10_named_17 : decode cX10_named 17 = .ok (.iconst 0, 1) := by decide +kernel
theorem dX10_named_18 : decode cX10_named 18 = .ok (.istore_n 3, 1) := by decide +kernel
theorem dX10_named_19 : decode cX10_named 19 = .ok (.iload_n 3, 1) := by decide +kernel
theorem dX10_named_20 : decode cX10_named 20 = .ok (.aload_n 0, 1) := by decide +kernel
theorem dX10_named_21 : decode cX10_named 21 = .ok (.getfield 131, 3) := by decide +kernel
theorem dX10_named_24 : decode cX10_named 24 = .ok (.if_icmp .ge 98, 3) := by decide +kernel
theorem dX10_named_27 : decode cX10_named 27 = .ok (.aload_n 0, 1) := by decide +kernel
theorem dX10_named_28 : decode cX10_named 28 = .ok (.getfield 27, 3) := by decide +kernel
theorem dX10_named_31 : decode cX10_named 31 = .ok (.iload_n 3, 1) := by decide +kernel
theorem dX10_named_32 : decode cX10_named 32 = .ok (.iaload, 1) := by decide +kernel
theorem dX10_named_33 : decode cX10_named 33 = .ok (.aload_n 0, 1) := by decide +kernel
theorem dX10_named_34 : decode cX10_named 34 = .ok (.getfield 23, 3) := by decide +kernel
theorem dX10_named_37 : decode cX10_named 37 = .ok (.iload_n 3, 1) := by decide +kernel
theorem dX10_named_38 : decode cX10_named 38 = .ok (.iaload, 1) := by decide +kernel
theorem dX10_named_39 : decode cX10_named 39 = .ok (.isub, 1) := by decide +kernel
theorem dX10_named_40 : decode cX10_named 40 = .ok (.iload_n 1, 1) := by decide +kernel
theorem dX10_named_41 : decode cX10_named 41 = .ok (.if_icmp .ne 7, 3) := by decide +kernel
theorem dX10_named_44 : decode cX10_named 44 = .ok (.iconst 1, 1) := by decide +kernel
theorem dX10_named_45 : decode cX10_named 45 = .ok (.goto 4, 3) := by decide +kernel
theorem dX10_named_48 : decode cX10_named 48 = .ok (.iconst 0, 1) := by decide +kernel
theorem dX10_named_49 : decode cX10_named 49 = .ok (.istore 4, 2) := by decide +kernel
theorem dX10_named_51 : decode cX10_named 51 = .ok (.iconst 0, 1) := by decide +kernel
theorem dX10_named_52 : decode cX10_named 52 = .ok (.istore 5, 2) := by decide +kernel
theorem dX10_named_54 : decode cX10_named 54 = .ok (.iload 5, 2) := by decide +kernel
theorem dX10_named_56 : decode cX10_named 56 = .ok (.iload_n 1, 1) := by decide +kernel
theorem dX10_named_57 : decode cX10_named 57 = .ok (.if_icmp .ge 51, 3) := by decide +kernel
theorem dX10_named_60 : decode cX10_named 60 = .ok (.iload 4, 2) := by decide +kernel
theorem dX10_named_62 : decode cX10_named 62 = .ok (.ifCond .eq 46, 3) := by decide +kernel
theorem dX10_named_65 : decode cX10_named 65 = .ok (.aload_n 0, 1) := by decide +kernel
theorem dX10_named_66 : decode cX10_named 66 = .ok (.getfield 20, 3) := by decide +kernel
theorem dX10_named_69 : decode cX10_named 69 = .ok (.aload_n 0, 1) := by decide +kernel
theorem dX10_named_70 : decode cX10_named 70 = .ok (.getfield 23, 3) := by decide +kernel
theorem dX10_named_73 : decode cX10_named 73 = .ok (.iload_n 3, 1) := by decide +kernel
theorem dX10_named_74 : decode cX10_named 74 = .ok (.iaload, 1) := by decide +kernel
theorem dX10_named_75 : decode cX10_named 75 = .ok (.iload 5, 2) := by decide +kernel
theorem dX10_named_77 : decode cX10_named 77 = .ok (.iadd, 1) := by decide +kernel
theorem dX10_named_78 : decode cX10_named 78 = .ok (.baload, 1) := by decide +kernel
theorem dX10_named_79 : decode cX10_named 79 = .ok (.invokestatic 160, 3) := by decide +kernel
theorem dX10_named_82 : decode cX10_named 82 = .ok (.aload_n 0, 1) := by decide +kernel
theorem dX10_named_83 : decode cX10_named 83 = .ok (.getfield 13, 3) := by decide +kernel
theorem dX10_named_86 : decode cX10_named 86 = .ok (.iload 5, 2) := by decide +kernel
theorem dX10_named_88 : decode cX10_named 88 = .ok (.baload, 1) := by decide +kernel
theorem dX10_named_89 : decode cX10_named 89 = .ok (.invokestatic 160, 3) := by decide +kernel
theorem dX10_named_92 : decode cX10_named 92 = .ok (.if_icmp .ne 7, 3) := by decide +kernel
theorem dX10_named_95 : decode cX10_named 95 = .ok (.iconst 1, 1) := by decide +kernel
theorem dX10_named_96 : decode cX10_named 96 = .ok (.goto 4, 3) := by decide +kernel
theorem dX10_named_99 : decode cX10_named 99 = .ok (.iconst 0, 1) := by decide +kernel
theorem dX10_named_100 : decode cX10_named 100 = .ok (.istore 4, 2) := by decide +kernel
theorem dX10_named_102 : decode cX10_named 102 = .ok (.iinc 5 1, 3) := by decide +kernel
theorem dX10_named_105 : decode cX10_named 105 = .ok (.goto (-51), 3) := by decide +kernel
theorem dX10_named_108 : decode cX10_named 108 = .ok (.iload 4, 2) := by decide +kernel
theorem dX10_named_110 : decode cX10_named 110 = .ok (.ifCond .eq 6, 3) := by decide +kernel
theorem dX10_named_113 : decode cX10_named 113 = .ok (.iinc 2 1, 3) := by decide +kernel
theorem dX10_named_116 : decode cX10_named 116 = .ok (.iinc 3 1, 3) := by decide +kernel
theorem dX10_named_119 : decode cX10_named 119 = .ok (.goto (-100), 3) := by decide +kernel
theorem dX10_named_122 : decode cX10_named 122 = .ok (.iload_n 2, 1) := by decide +kernel
theorem dX10_named_123 : decode cX10_named 123 = .ok (.ireturn, 1) := by decide +kernel
theorem hyX10_named : yX10_named.cls ≠ "java/lang/invoke/MethodHandle" ∧ yX10_named.cls ≠ "java/lang/invoke/VarHandle" ∧ (parseMethodDescriptor yX10_named.desc).map (fun d => d.parameters.length) = some 0 := by decide +kernel
abbrev J_X10_named_19 (E : gx_E) (v0 : Nat) (v1 : Int32) (v2 : Int32) (v3 : Int32) (u : gx_S) : Prop := gx_Wc E 6 19 [(0, .ref (ex_ad E v0)), (1, .int v1), (2, .int v2), (3, .int v3)] [] u
abbrev J_X10_named_54 (E : gx_E) (v0 : Nat) (v1 : Int32) (v2 : Int32) (v3 : Int32) (v4 : Int32) (v5 : Int32) (u : gx_S) : Prop := gx_Wc E 6 54 [(0, .ref (ex_ad E v0)), (1, .int v1), (2, .int v2), (3, .int v3), (4, .int v4), (5, .int v5)] [] u
set_option maxHeartbeats 4000000 in
set_option maxRecDepth 100000 in
theorem w_X10_named_0 {E : gx_E} (X : gx_X E cX10_named 6 RX10 (some .int)) (hd : 1 ≤ ex_d E) {post : Int32 → gx_S → Prop} (hQ : ex_Q E = va_Qi post (gx_B (ex_Z E)) (gx_A (ex_Z E))) {u : gx_S} {v0 : Nat} (h : (gx_isO v0 9 ∧ S_X10_used u v0 (fun (r3 : Int32) (u2 : gx_S) => ((¬ (gx_i u2 v0 14) = 0 → J_X10_named_19 E v0 r3 (0 : Int32) (0 : Int32) u2) ∧ ((gx_i u2 v0 14) = 0 → post (-2 : Int32) u2))))) : gx_Wc E 6 0 [(0, .ref (ex_ad E v0))] [] u := by
  refine gx_aload_n X (j := 0) dX10_named_0 rfl rfl ?_
  obtain ⟨k1, h⟩ := h
  refine gx_ki (gx_rV X (c_X10_used h) (Nat.le_trans (by decide) hd) (Nat.le_trans (by decide) (Nat.mul_le_mul_left 40 hd)) k1 rfl mw_625 mw_627 mp_12 mw_7 mw_628 hyX10_used (As := []) (rest := []) rfl rfl (Nat.le_of_ble_eq_true rfl) dX10_named_1) (fun r3 u2 h => ?_)
  refine gx_istore_n X (lv' := [(1, .int r3), (0, .ref (ex_ad E v0))]) dX10_named_4 rfl (by decide) rfl ?_
  refine gx_iconst X (v := 0) dX10_named_5 (by decide) ?_
  refine gx_istore_n X (lv' := [(2, .int (0 : Int32)), (1, .int r3), (0, .ref (ex_ad E v0))]) dX10_named_6 rfl (by decide) rfl ?_
  refine gx_aload_n X (j := 2) dX10_named_7 rfl rfl ?_
  refine gx_get X k1 rfl iwX10 14 (by decide) mw_535 (v := .int (gx_i u2 v0 14)) rfl dX10_named_8 ?_
  refine gx_if_ne X (tgt := 17) dX10_named_11 (by decide) (fun c4 => ?_) (fun c4 => ?_)
  · replace h := h.1 c4
    refine gx_iconst X (v := 0) dX10_named_17 (by decide) ?_
    refine gx_istore_n X (lv' := [(3, .int (0 : Int32)), (2, .int (0 : Int32)), (1, .int r3), (0, .ref (ex_ad E v0))]) dX10_named_18 rfl (by decide) rfl ?_
    exact gx_sub [3, 2, 1, 0] rfl h
  · replace h := h.2 c4
    refine gx_bipush X (v := -2) dX10_named_14 (by decide) ?_
    exact gx_iret X hQ h dX10_named_16
set_option maxHeartbeats 4000000 in
set_option maxRecDepth 100000 in
theorem w_X10_named_19 {E : gx_E} (X : gx_X E cX10_named 6 RX10 (some .int)) (hd : 1 ≤ ex_d E) {post : Int32 → gx_S → Prop} (hQ : ex_Q E = va_Qi post (gx_B (ex_Z E)) (gx_A (ex_Z E))) {u : gx_S} {v0 : Nat} {v1 : Int32} {v2 : Int32} {v3 : Int32} (h : (gx_isO v0 9 ∧ (((gx_i u v0 11) ≤ v3 → post v2 u) ∧ (¬ (gx_i u v0 11) ≤ v3 → (gx_isR (gx_r u v0 6) .int ∧ vp_in v3 (gx_len (gx_r u v0 6)) ∧ (gx_isR (gx_r u v0 5) .int ∧ vp_in v3 (gx_len (gx_r u v0 5)) ∧ ((¬ ((gx_a u (gx_r u v0 6) v3.toNatClampNeg) - (gx_a u (gx_r u v0 5) v3.toNatClampNeg)) = v1 → J_X10_named_54 E v0 v1 v2 v3 (0 : Int32) (0 : Int32) u) ∧ (((gx_a u (gx_r u v0 6) v3.toNatClampNeg) - (gx_a u (gx_r u v0 5) v3.toNatClampNeg)) = v1 → J_X10_named_54 E v0 v1 v2 v3 (1 : Int32) (0 : Int32) u)))))))) : gx_Wc E 6 19 [(0, .ref (ex_ad E v0)), (1, .int v1), (2, .int v2), (3, .int v3)] [] u := by
  refine gx_iload_n X (j := 3) dX10_named_19 rfl rfl ?_
  refine gx_aload_n X (j := 0) dX10_named_20 rfl rfl ?_
  obtain ⟨k1, h⟩ := h
  refine gx_get X k1 rfl iwX10 11 (by decide) mw_532 (v := .int (gx_i u v0 11)) rfl dX10_named_21 ?_
  refine gx_icmp_ge X (tgt := 122) dX10_named_24 (by decide) (fun c7 => ?_) (fun c7 => ?_)
  · replace h := h.1 c7
    refine gx_iload_n X (j := 2) dX10_named_122 rfl rfl ?_
    exact gx_iret X hQ h dX10_named_123
  · replace h := h.2 c7
    refine gx_aload_n X (j := 0) dX10_named_27 rfl rfl ?_
    refine gx_get X k1 rfl iwX10 6 (by decide) mw_527 (v := .ref (ex_ad E (gx_r u v0 6))) rfl dX10_named_28 ?_
    refine gx_iload_n X (j := 3) dX10_named_31 rfl rfl ?_
    obtain ⟨k2, h⟩ := h
    obtain ⟨k3, h⟩ := h
    refine gx_iald X k2 k3 dX10_named_32 ?_
    refine gx_aload_n X (j := 0) dX10_named_33 rfl rfl ?_
    refine gx_get X k1 rfl iwX10 5 (by decide) mw_526 (v := .ref (ex_ad E (gx_r u v0 5))) rfl dX10_named_34 ?_
    refine gx_iload_n X (j := 3) dX10_named_37 rfl rfl ?_
    obtain ⟨k4, h⟩ := h
    obtain ⟨k5, h⟩ := h
    refine gx_iald X k4 k5 dX10_named_38 ?_
    refine gx_isub X dX10_named_39 ?_
    refine gx_iload_n X (j := 1) dX10_named_40 rfl rfl ?_
    refine gx_icmp_ne X (tgt := 48) dX10_named_41 (by decide) (fun c6 => ?_) (fun c6 => ?_)
    · replace h := h.1 c6
      refine gx_iconst X (v := 0) dX10_named_48 (by decide) ?_
      refine gx_istore X (lv' := [(4, .int (0 : Int32)), (0, .ref (ex_ad E v0)), (1, .int v1), (2, .int v2), (3, .int v3)]) dX10_named_49 (by decide) rfl ?_
      refine gx_iconst X (v := 0) dX10_named_51 (by decide) ?_
      refine gx_istore X (lv' := [(5, .int (0 : Int32)), (4, .int (0 : Int32)), (0, .ref (ex_ad E v0)), (1, .int v1), (2, .int v2), (3, .int v3)]) dX10_named_52 (by decide) rfl ?_
      exact gx_sub [2, 3, 4, 5, 1, 0] rfl h
    · replace h := h.2 c6
      refine gx_iconst X (v := 1) dX10_named_44 (by decide) ?_
      refine gx_goto X (tgt := 49) dX10_named_45 (by decide) ?_
      refine gx_istore X (lv' := [(4, .int (1 : Int32)), (0, .ref (ex_ad E v0)), (1, .int v1), (2, .int v2), (3, .int v3)]) dX10_named_49 (by decide) rfl ?_
      refine gx_iconst X (v := 0) dX10_named_51 (by decide) ?_
      refine gx_istore X (lv' := [(5, .int (0 : Int32)), (4, .int (1 : Int32)), (0, .ref (ex_ad E v0)), (1, .int v1), (2, .int v2), (3, .int v3)]) dX10_named_52 (by decide) rfl ?_
      exact gx_sub [2, 3, 4, 5, 1, 0] rfl h
set_option maxHeartbeats 4000000 in
set_option maxRecDepth 100000 in
theorem w_X10_named_54 {E : gx_E} (X : gx_X E cX10_named 6 RX10 (some .int)) (hd : 1 ≤ ex_d E) {post : Int32 → gx_S → Prop} (hQ : ex_Q E = va_Qi post (gx_B (ex_Z E)) (gx_A (ex_Z E))) {u : gx_S} {v0 : Nat} {v1 : Int32} {v2 : Int32} {v3 : Int32} {v4 : Int32} {v5 : Int32} (h : ((v1 ≤ v5 → ((v4 = 0 → (∀ x1 : Int32, x1 = v3 + 1 → J_X10_named_19 E v0 v1 v2 x1 u)) ∧ (¬ v4 = 0 → (∀ x2 : Int32, x2 = v2 + 1 → (∀ x3 : Int32, x3 = v3 + 1 → J_X10_named_19 E v0 v1 x2 x3 u))))) ∧ (¬ v1 ≤ v5 → ((v4 = 0 → ((v4 = 0 → (∀ x5 : Int32, x5 = v3 + 1 → J_X10_named_19 E v0 v1 v2 x5 u)) ∧ (¬ v4 = 0 → (∀ x6 : Int32, x6 = v2 + 1 → (∀ x7 : Int32, x7 = v3 + 1 → J_X10_named_19 E v0 v1 x6 x7 u))))) ∧ (¬ v4 = 0 → (gx_isO v0 9 ∧ (gx_isR (gx_r u v0 5) .int ∧ vp_in v3 (gx_len (gx_r u v0 5)) ∧ (gx_isR (gx_r u v0 4) .byte ∧ vp_in ((gx_a u (gx_r u v0 5) v3.toNatClampNeg) + v5) (gx_len (gx_r u v0 4)) ∧ (S_X10_small u (gx_a u (gx_r u v0 4) ((gx_a u (gx_r u v0 5) v3.toNatClampNeg) + v5).toNatClampNeg) (fun (r15 : Int32) (u14 : gx_S) => (gx_isR (gx_r u14 v0 0) .byte ∧ vp_in v5 (gx_len (gx_r u14 v0 0)) ∧ (S_X10_small u14 (gx_a u14 (gx_r u14 v0 0) v5.toNatClampNeg) (fun (r19 : Int32) (u18 : gx_S) => ((¬ r15 = r19 → (∀ x20 : Int32, x20 = v5 + 1 → J_X10_named_54 E v0 v1 v2 v3 (0 : Int32) x20 u18)) ∧ (r15 = r19 → (∀ x21 : Int32, x21 = v5 + 1 → J_X10_named_54 E v0 v1 v2 v3 (1 : Int32) x21 u18)))))))))))))))) : gx_Wc E 6 54 [(0, .ref (ex_ad E v0)), (1, .int v1), (2, .int v2), (3, .int v3), (4, .int v4), (5, .int v5)] [] u := by
  refine gx_iload X (j := 5) dX10_named_54 rfl ?_
  refine gx_iload_n X (j := 1) dX10_named_56 rfl rfl ?_
  refine gx_icmp_ge X (tgt := 108) dX10_named_57 (by decide) (fun c24 => ?_) (fun c24 => ?_)
  · replace h := h.1 c24
    refine gx_iload X (j := 4) dX10_named_108 rfl ?_
    refine gx_if_eq X (tgt := 116) dX10_named_110 (by decide) (fun c4 => ?_) (fun c4 => ?_)
    · replace h := h.1 c4
      obtain ⟨x1, ex1⟩ : ∃ y : Int32, y = v3 + 1 := ⟨_, rfl⟩
      replace h := h x1 ex1
      refine gx_iinc X (v := x1) (lv' := [(3, .int x1), (0, .ref (ex_ad E v0)), (1, .int v1), (2, .int v2), (4, .int v4), (5, .int v5)]) dX10_named_116 (j := 3) rfl (by rw [ex1]; rfl) (by decide) rfl ?_
      refine gx_goto X (tgt := 19) dX10_named_119 (by decide) ?_
      exact gx_sub [1, 2, 3, 0] rfl h
    · replace h := h.2 c4
      obtain ⟨x2, ex2⟩ : ∃ y : Int32, y = v2 + 1 := ⟨_, rfl⟩
      replace h := h x2 ex2
      refine gx_iinc X (v := x2) (lv' := [(2, .int x2), (0, .ref (ex_ad E v0)), (1, .int v1), (3, .int v3), (4, .int v4), (5, .int v5)]) dX10_named_113 (j := 2) rfl (by rw [ex2]; rfl) (by decide) rfl ?_
      obtain ⟨x3, ex3⟩ : ∃ y : Int32, y = v3 + 1 := ⟨_, rfl⟩
      replace h := h x3 ex3
      refine gx_iinc X (v := x3) (lv' := [(3, .int x3), (2, .int x2), (0, .ref (ex_ad E v0)), (1, .int v1), (4, .int v4), (5, .int v5)]) dX10_named_116 (j := 3) rfl (by rw [ex3]; rfl) (by decide) rfl ?_
      refine gx_goto X (tgt := 19) dX10_named_119 (by decide) ?_
      exact gx_sub [2, 3, 1, 0] rfl h
  · replace h := h.2 c24
    refine gx_iload X (j := 4) dX10_named_60 rfl ?_
    refine gx_if_eq X (tgt := 108) dX10_named_62 (by decide) (fun c23 => ?_) (fun c23 => ?_)
    · replace h := h.1 c23
      refine gx_iload X (j := 4) dX10_named_108 rfl ?_
      refine gx_if_eq X (tgt := 116) dX10_named_110 (by decide) (fun c8 => ?_) (fun c8 => ?_)
      · replace h := h.1 c8
        obtain ⟨x5, ex5⟩ : ∃ y : Int32, y = v3 + 1 := ⟨_, rfl⟩
        replace h := h x5 ex5
        refine gx_iinc X (v := x5) (lv' := [(3, .int x5), (0, .ref (ex_ad E v0)), (1, .int v1), (2, .int v2), (4, .int v4), (5, .int v5)]) dX10_named_116 (j := 3) rfl (by rw [ex5]; rfl) (by decide) rfl ?_
        refine gx_goto X (tgt := 19) dX10_named_119 (by decide) ?_
        exact gx_sub [1, 2, 3, 0] rfl h
      · replace h := h.2 c8
        obtain ⟨x6, ex6⟩ : ∃ y : Int32, y = v2 + 1 := ⟨_, rfl⟩
        replace h := h x6 ex6
        refine gx_iinc X (v := x6) (lv' := [(2, .int x6), (0, .ref (ex_ad E v0)), (1, .int v1), (3, .int v3), (4, .int v4), (5, .int v5)]) dX10_named_113 (j := 2) rfl (by rw [ex6]; rfl) (by decide) rfl ?_
        obtain ⟨x7, ex7⟩ : ∃ y : Int32, y = v3 + 1 := ⟨_, rfl⟩
        replace h := h x7 ex7
        refine gx_iinc X (v := x7) (lv' := [(3, .int x7), (2, .int x6), (0, .ref (ex_ad E v0)), (1, .int v1), (4, .int v4), (5, .int v5)]) dX10_named_116 (j := 3) rfl (by rw [ex7]; rfl) (by decide) rfl ?_
        refine gx_goto X (tgt := 19) dX10_named_119 (by decide) ?_
        exact gx_sub [2, 3, 1, 0] rfl h
    · replace h := h.2 c23
      refine gx_aload_n X (j := 0) dX10_named_65 rfl rfl ?_
      obtain ⟨k9, h⟩ := h
      refine gx_get X k9 rfl iwX10 4 (by decide) mw_525 (v := .ref (ex_ad E (gx_r u v0 4))) rfl dX10_named_66 ?_
      refine gx_aload_n X (j := 0) dX10_named_69 rfl rfl ?_
      refine gx_get X k9 rfl iwX10 5 (by decide) mw_526 (v := .ref (ex_ad E (gx_r u v0 5))) rfl dX10_named_70 ?_
      refine gx_iload_n X (j := 3) dX10_named_73 rfl rfl ?_
      obtain ⟨k10, h⟩ := h
      obtain ⟨k11, h⟩ := h
      refine gx_iald X k10 k11 dX10_named_74 ?_
      refine gx_iload X (j := 5) dX10_named_75 rfl ?_
      refine gx_iadd X dX10_named_77 ?_
      obtain ⟨k12, h⟩ := h
      obtain ⟨k13, h⟩ := h
      refine gx_bald X k12 k13 dX10_named_78 ?_
      refine gx_ki (gx_rS X (c_X10_small h) (Nat.le_trans (by decide) hd) (Nat.le_trans (by decide) (Nat.mul_le_mul_left 40 hd)) mw_677 mw_678 mw_7 mw_679 hyX10_small (As := [.int (gx_a u (gx_r u v0 4) ((gx_a u (gx_r u v0 5) v3.toNatClampNeg) + v5).toNatClampNeg)]) (rest := []) rfl rfl (Nat.le_of_ble_eq_true rfl) dX10_named_79) (fun r15 u14 h => ?_)
      refine gx_aload_n X (j := 0) dX10_named_82 rfl rfl ?_
      refine gx_get X k9 rfl iwX10 0 (by decide) mw_521 (v := .ref (ex_ad E (gx_r u14 v0 0))) rfl dX10_named_83 ?_
      refine gx_iload X (j := 5) dX10_named_86 rfl ?_
      obtain ⟨k16, h⟩ := h
      obtain ⟨k17, h⟩ := h
      refine gx_bald X k16 k17 dX10_named_88 ?_
      refine gx_ki (gx_rS X (c_X10_small h) (Nat.le_trans (by decide) hd) (Nat.le_trans (by decide) (Nat.mul_le_mul_left 40 hd)) mw_677 mw_678 mw_7 mw_679 hyX10_small (As := [.int (gx_a u14 (gx_r u14 v0 0) v5.toNatClampNeg)]) (rest := [.int r15]) rfl rfl (Nat.le_of_ble_eq_true rfl) dX10_named_89) (fun r19 u18 h => ?_)
      refine gx_icmp_ne X (tgt := 99) dX10_named_92 (by decide) (fun c22 => ?_) (fun c22 => ?_)
      · replace h := h.1 c22
        refine gx_iconst X (v := 0) dX10_named_99 (by decide) ?_
        refine gx_istore X (lv' := [(4, .int (0 : Int32)), (0, .ref (ex_ad E v0)), (1, .int v1), (2, .int v2), (3, .int v3), (5, .int v5)]) dX10_named_100 (by decide) rfl ?_
        obtain ⟨x20, ex20⟩ : ∃ y : Int32, y = v5 + 1 := ⟨_, rfl⟩
        replace h := h x20 ex20
        refine gx_iinc X (v := x20) (lv' := [(5, .int x20), (4, .int (0 : Int32)), (0, .ref (ex_ad E v0)), (1, .int v1), (2, .int v2), (3, .int v3)]) dX10_named_102 (j := 5) rfl (by rw [ex20]; rfl) (by decide) rfl ?_
        refine gx_goto X (tgt := 54) dX10_named_105 (by decide) ?_
        exact gx_sub [2, 3, 4, 5, 1, 0] rfl h
      · replace h := h.2 c22
        refine gx_iconst X (v := 1) dX10_named_95 (by decide) ?_
        refine gx_goto X (tgt := 100) dX10_named_96 (by decide) ?_
        refine gx_istore X (lv' := [(4, .int (1 : Int32)), (0, .ref (ex_ad E v0)), (1, .int v1), (2, .int v2), (3, .int v3), (5, .int v5)]) dX10_named_100 (by decide) rfl ?_
        obtain ⟨x21, ex21⟩ : ∃ y : Int32, y = v5 + 1 := ⟨_, rfl⟩
        replace h := h x21 ex21
        refine gx_iinc X (v := x21) (lv' := [(5, .int x21), (4, .int (1 : Int32)), (0, .ref (ex_ad E v0)), (1, .int v1), (2, .int v2), (3, .int v3)]) dX10_named_102 (j := 5) rfl (by rw [ex21]; rfl) (by decide) rfl ?_
        refine gx_goto X (tgt := 54) dX10_named_105 (by decide) ?_
        exact gx_sub [2, 3, 4, 5, 1, 0] rfl h
theorem i_X10_tell {u : gx_S} {t : Nat} {L : List Nat} {post : Int32 → gx_S → Prop} (hf : mfix t u) (hL : txt u 22 37 L) (hl : L.length ≤ 2000) (h : ∀ v, exG [29] [(21, 2)] u v → mo v L → post (nI L.length) v) : S_X10_tell u 21 22 post := by
  unfold S_X10_tell
  rw [show gx_r u 22 0 = 37 from hf 22 0 (by decide) (by decide), show gx_r u 21 3 = 29 from hf 21 3 (by decide) (by decide), hL.1, nI_clamp (by omega)]
  refine ⟨isO22, isO21, isA37.r, isA29, by decide, by decide, nI_pos (by omega), by show 0 + L.length ≤ 4000; omega, by show 0 + L.length ≤ 4000; omega, fun u10 e10 u11 e11 => ?_⟩
  have x11 : exG [29] [(21, 2)] u u11 := exG_tr (v := u10) (by rw [e10]; exact exG_pa _ _ (by simp)) (by rw [e11]; exact exG_pi _ _ (by simp))
  rw [x11.1 22 1 (by decide), hL.1]
  refine h u11 x11 ⟨?_, hl, hL.2.1, fun j hj => ?_⟩
  · rw [e11, gx_i_pi, if_pos ⟨rfl, rfl⟩, e10, gx_i_pa, hL.1]
  · have g : gx_a u11 29 = va_cpy (gx_a u 37) (gx_a u 29) 0 0 L.length := by subst e11 e10; rfl
    rw [g, sb_cpy0 hj]
    exact hL.2.2 j hj
/-- the model's out alone is new -/
theorem mS_o {u v : gx_S} {t k : Nat} {T O M G O' : List Nat} {HC KC : Nat → Int32} (h : mS u t T O M k G HC KC) (hx : exG [29] [(21, 2)] u v) (hO : mo v O') : mS v t T O' M k G HC KC ∧ exM u v := by
  obtain ⟨h0, h1, h2, h3, h4, h5, h6⟩ := h
  exact ⟨⟨h0, exG_mfix hx h1, mt_ex hx (by decide) (by decide) h2, hO, mm_ex hx (by decide) (by decide) h4, mg_ex hx (by intro a h1 h2 e; simp at e; omega) (by rcases h0 with rfl | rfl <;> decide) h5, mh_ex hx (by decide) h6⟩, exM_of hx (by decide) (by decide)⟩
theorem mm_len {u : gx_S} {M : List Nat} {k : Nat} (h : mm u M k) (hk : k ≠ 0) : M.length ≤ 2000 ∧ k ≤ 20 ∧ gx_i u 21 14 = 1 ∧ gx_i u 21 11 = nI k := by
  rcases h with h | ⟨_, m1, m2, m3, m4, m5, m6, m7, m8⟩
  · exact absurd h.1 hk
  · exact ⟨m5, m3, m1, m2⟩
theorem mm_0 {u : gx_S} {M : List Nat} {k : Nat} (h : mm u M k) : (gx_i u 21 14 = 0 ↔ k = 0) := by
  rcases h with h | ⟨h0, m1, m2, m3, m4, m5, m6, m7, m8⟩
  · exact ⟨fun _ => h.1, fun _ => h.2⟩
  · exact ⟨fun e => absurd (m1.symm.trans e) (by decide), fun e => absurd e h0⟩
theorem q_plainBody {u : gx_S} {t k : Nat} {T O M G : List Nat} {HC KC : Nat → Int32} {rel : Bool} {post : Int32 → gx_S → Prop} (h : mS u t T O M k G HC KC) (h1 : k ≠ 0 → ∀ v, exM u v → mS v t T (bodyO M rel (plc M k + 1)) M k G HC KC → post (nI (bodyO M rel (plc M k + 1)).length) v) (h2 : k = 0 → post (-2) u) : S_X10_plainBody u 21 (b2 rel) post := by
  have hm := h.2.2.2.2.1
  refine ⟨isO21, fun q => ?_, fun q => h2 ((mm_0 hm).mp q)⟩
  have hk : k ≠ 0 := fun e => q ((mm_0 hm).mpr e)
  obtain ⟨l1, l2, l3, l4⟩ := mm_len hm hk
  refine ⟨rfl, t, k, M, rel, h.2.1, hm, hk, rfl, fun v xv mv => ?_⟩
  have s1 := mS_x h xv (by decide) (by decide)
  dsimp only
  rw [show gx_r v 21 15 = 22 from s1.1.2.1 21 15 (by decide) (by decide)]
  refine i_X10_tell s1.1.2.1 mv (bodyO_len l1) (fun v2 x2 m2 => ?_)
  have s2 := mS_o s1.1 x2 m2
  exact h1 hk v2 (exM_tr s1.2 s2.2) s2.1
theorem q_plainField {u : gx_S} {t k : Nat} {T O M G : List Nat} {HC KC : Nat → Int32} {rel : Bool} {x : Int32} {post : Int32 → gx_S → Prop} (h : mS u t T O M k G HC KC) (hkc : k ≠ 0 → k = cnt M) (h1 : ∀ j, j < k → x = nI j → ∀ v, exM u v → mS v t T (if rel then rfO M (plc M j) (plc M (j + 1)) else sfO M (plc M j) (plc M (j + 1))) M k G HC KC → post (nI (if rel then rfO M (plc M j) (plc M (j + 1)) else sfO M (plc M j) (plc M (j + 1))).length) v) (h2 : (x < 0 ∨ nI k ≤ x) → post (-2) u) : S_X10_plainField u 21 x (b2 rel) post := by
  have hm := h.2.2.2.2.1
  have hr := i32_r x
  refine ⟨isO21, fun q => h2 ?_, fun q => ?_⟩
  · rw [(mm_0 hm).mp q]
    by_cases z : x < 0
    · exact Or.inl z
    · exact Or.inr (Int32.not_lt.mp z)
  · have hk : k ≠ 0 := fun e => q ((mm_0 hm).mpr e)
    obtain ⟨l1, l2, l3, l4⟩ := mm_len hm hk
    rw [l4, nsub (a := k) (b := 1) (by omega) (B := 1) rfl, i2l_ x, i2l_ (nI (k - 1)), nI_toInt (by omega), show (0 : Int64) = lz 0 from rfl]
    refine i_X10_in (by omega) (by omega) (by omega) ⟨fun q2 => ?_, fun q2 => h2 ?_⟩
    · have q2 := b2_n0 q2
      have hx : 0 ≤ x.toInt ∧ x.toInt ≤ ((k - 1 : Nat) : Int) := by simpa using q2
      have h0 : ¬ x < 0 := by rw [Int32.lt_iff_toInt_lt, show (0 : Int32).toInt = 0 from rfl]; omega
      obtain ⟨j, hj, rfl⟩ := nI_of h0
      rw [nI_toInt hj] at hx
      rw [show gx_r u 21 15 = 22 from h.2.1 21 15 (by decide) (by decide)]
      refine ⟨isO22, fun u5 e5 => ?_⟩
      have x5 : exG [37] [(22, 1)] u u5 := by rw [e5]; exact exG_pi _ _ (by simp)
      have s5 := mS_x h x5 (by decide) (by decide)
      refine ⟨rfl, rfl, rfl, t, k, j, M, rel, s5.1.2.1, s5.1.2.2.2.2.1, hk, hkc hk, by omega, rfl, rfl, ?_, fun v xv mv => ?_⟩
      · rw [e5]; exact ⟨by rw [gx_i_pi, if_pos ⟨rfl, rfl⟩]; rfl, rdb_nil _⟩
      · have s1 := mS_x s5.1 xv (by decide) (by decide)
        dsimp only
        rw [show gx_r v 21 15 = 22 from s1.1.2.1 21 15 (by decide) (by decide)]
        refine i_X10_tell s1.1.2.1 mv ?_ (fun v2 x2 m2 => ?_)
        · split
          · exact rfO_len (by have := hkc hk; omega) l1
          · exact sfO_len l1
        · have s2 := mS_o s1.1 x2 m2
          exact h1 j (by omega) rfl v2 (exM_tr s5.2 (exM_tr s1.2 s2.2)) s2.1
    · rw [b2_0] at q2
      have hx : ¬ (0 ≤ x.toInt ∧ x.toInt ≤ ((k - 1 : Nat) : Int)) := by simpa using q2
      rw [Int32.lt_iff_toInt_lt, Int32.le_iff_toInt_le, nI_toInt (by omega), show (0 : Int32).toInt = 0 from rfl]
      omega
-- named
theorem sb_inj {a b : Nat} (ha : a < 256) (hb : b < 256) : sb_b a = sb_b b ↔ a = b := by
  constructor
  · intro h
    have := congrArg (fun x : Int32 => x &&& 255) h
    simp only [sb_nI ha, sb_nI hb] at this
    exact (nI_eq (by omega) (by omega)).mp this
  · intro h; rw [h]
def S_X10_named (u : gx_S) (v0 : Nat) (post : Int32 → gx_S → Prop) : Prop := v0 = 21 ∧ ∃ (t k : Nat) (T O M G : List Nat) (HC KC : Nat → Int32), mS u t T O M k G HC KC ∧ (k ≠ 0 → k = cnt M) ∧ (k ≠ 0 → ∀ v, exM u v → mS v t [] O M k G HC KC → post (nI (cnm M T k)) v) ∧ (k = 0 → ∀ v, exM u v → mS v t [] O M k G HC KC → post (-2) v)
theorem lp54 {E : gx_E} (X : gx_X E cX10_named 6 RX10 (some .int)) (hd : 1 ≤ ex_d E) {post : Int32 → gx_S → Prop} (hQ : ex_Q E = va_Qi post (gx_B (ex_Z E)) (gx_A (ex_Z E))) {t p f c : Nat} {M T : List Nat} {u : gx_S} (hf : mfix t u) (hM : rdb M (gx_a u 30)) (hMl : M.length ≤ 2000) (hT : rdb T (gx_a u 28)) (hTl : T.length ≤ 2000) (hb : gx_a u 31 f = nI p) (hfl : f < 21) {R : Bool} (h : J_X10_named_19 E 21 (nI T.length) (nI (c + if R = true then 1 else 0)) (nI (f + 1)) u) :
    ∀ (n i : Nat) (al : Bool), T.length - i = n → i ≤ T.length → (al = true → p + T.length ≤ M.length) → R = (al && cmpF M p T n i) → J_X10_named_54 E 21 (nI T.length) (nI c) (nI f) (b2 al) (nI i) u := by
  have hz : R = false → J_X10_named_19 E 21 (nI T.length) (nI c) (nI f + 1) u := fun e => by
    rw [nI_1]
    rw [e] at h
    exact h
  intro n
  induction n with
  | zero =>
    intro i al hn hi ha hR
    refine w_X10_named_54 X hd hQ ⟨fun _ => ⟨fun q => ?_, fun q => ?_⟩, fun q => absurd (nI_le (by omega) (by omega)) q⟩
    · rw [b2_0] at q
      rintro x rfl
      exact hz (by rw [hR, q]; rfl)
    · have q := b2_n0 q
      rintro x rfl y rfl
      rw [nI_1, nI_1]
      rw [hR, q] at h
      exact h
  | succ n ih =>
    intro i al hn hi ha hR
    refine w_X10_named_54 X hd hQ ⟨fun q => absurd q (nI_ge (by omega) (by omega)), fun _ => ⟨fun q => ⟨fun _ => ?_, fun q2 => absurd q q2⟩, fun q => ⟨isO21, ?_⟩⟩⟩
    · rw [b2_0] at q
      rintro x rfl
      exact hz (by rw [hR, q]; rfl)
    · have q := b2_n0 q
      subst q
      have ha := ha rfl
      have c1 := ch_lt hM.1 (j := p + i) (by omega)
      have c2 := ch_lt hT.1 (j := i) (by omega)
      unfold cmpF at hR
      rw [show gx_r u 21 5 = 31 from hf 21 5 (by decide) (by decide), show gx_r u 21 4 = 30 from hf 21 4 (by decide) (by decide), nI_clamp (show f < 2 ^ 31 by omega), hb, nI_add, nI_clamp (show p + i < 2 ^ 31 by omega), hM.2 _ (by omega)]
      refine ⟨isA31.r, in21 rfl hfl, isA30.r, in30 (by omega), i_X10_small c1 ?_⟩
      rw [show gx_r u 21 0 = 28 from hf 21 0 (by decide) (by decide), nI_clamp (show i < 2 ^ 31 by omega), hT.2 i (by omega)]
      refine ⟨isA28.r, in28 (by omega), i_X10_small c2 ?_⟩
      rw [sb_inj (sml_lt c1) (sml_lt c2)]
      refine ⟨fun q => ?_, fun q => ?_⟩
      · rintro x rfl
        rw [nI_1]
        refine ih (i + 1) false (by omega) (by omega) (fun z => absurd z (by decide)) ?_
        rw [hR, if_neg q]
        rfl
      · rintro x rfl
        rw [nI_1]
        refine ih (i + 1) true (by omega) (by omega) (fun _ => ha) ?_
        rw [hR, if_pos q]
theorem w_X10_named {E : gx_E} (X : gx_X E cX10_named 6 RX10 (some .int)) (hd : 1 ≤ ex_d E) {post : Int32 → gx_S → Prop} (hQ : ex_Q E = va_Qi post (gx_B (ex_Z E)) (gx_A (ex_Z E))) {u : gx_S} {v0 : Nat} (h : S_X10_named u v0 post) : gx_Wc E 6 0 [(0, .ref (ex_ad E v0))] [] u := by
  obtain ⟨rfl, t, k, T, O, M, G, HC, KC, hS, hkc, h1, h2⟩ := h
  have hT := hS.2.2.1
  refine w_X10_named_0 X hd hQ ⟨isO21, isO21, ?_⟩
  intro x2 e2 u3 e3
  have s := mS_t hS (v := u3) (T' := []) (by rw [e3]; exact exG_pi _ _ (by simp)) (by rw [e3]; exact mt_cut hT (n := 0) (by omega))
  have a28 : gx_a u3 28 = gx_a u 28 := by rw [e3]; rfl
  rw [e2, hT.1]
  have hm := s.1.2.2.2.2.1
  refine ⟨fun q => ?_, fun q => h2 ((mm_0 hm).mp q) u3 s.2 s.1⟩
  have hk : k ≠ 0 := fun e => q ((mm_0 hm).mpr e)
  have hkc := hkc hk
  have hf := s.1.2.1
  have hpost := h1 hk u3 s.2 s.1
  clear e3 e2
  rcases hm with hm | ⟨_, m1, m2, m3, m4, m5, m6, m7, m8⟩
  · exact absurd hm.1 hk
  have lp : ∀ n f, k - f = n → f ≤ k → J_X10_named_19 E 21 (nI T.length) (nI (cnm M T f)) (nI f) u3 := by
    intro n
    induction n with
    | zero =>
      intro f hn hfk
      refine w_X10_named_19 X hd hQ ⟨isO21, fun _ => ?_, fun q => absurd ?_ q⟩
      · rw [show f = k by omega]; exact hpost
      · rw [m2]; exact nI_le (by omega) (by omega)
    | succ n ih =>
      intro f hn hfk
      obtain ⟨g1, g2, g3, g4⟩ := pl_ok (M := M) (j := f) (by omega)
      have h20 := nameLen_le M (plc M f)
      refine w_X10_named_19 X hd hQ ⟨isO21, fun q => absurd q ?_, fun _ => ?_⟩
      · rw [m2]; exact nI_ge (by omega) (by omega)
      · obtain ⟨b1, b2', b3⟩ := m8 f (by omega)
        rw [show gx_r u3 21 5 = 31 from hf 21 5 (by decide) (by decide), show gx_r u3 21 6 = 32 from hf 21 6 (by decide) (by decide), nI_clamp (show f < 2 ^ 31 by omega), b1, b2', nsub (a := plc M f + nameLen M (plc M f)) (b := plc M f) (by omega) (B := nI (plc M f)) rfl, Nat.add_sub_cancel_left, nI_eq (by omega) (by have := hT.2.1; omega)]
        have nx := ih (f + 1) (by omega) (by omega)
        refine ⟨isA32.r, in21 rfl (by omega), isA31.r, in21 rfl (by omega), fun q => ?_, fun q => ?_⟩
        · refine lp54 X hd hQ (R := isNm M (plc M f) T) hf m4 m5 (by rw [a28]; exact hT.2.2) hT.2.1 b1 (by omega) nx _ 0 false rfl (by omega) (fun z => absurd z (by decide)) ?_
          unfold isNm
          rw [if_neg q]
          rfl
        · refine lp54 X hd hQ (R := isNm M (plc M f) T) hf m4 m5 (by rw [a28]; exact hT.2.2) hT.2.1 b1 (by omega) nx _ 0 true rfl (by omega) (fun z => by omega) ?_
          unfold isNm
          rw [if_pos q]
          simp
  exact lp _ 0 rfl (by omega)
theorem c_X10_named {l : Launch} {Z : gx_Z} {u : gx_S} {v0 : Nat} {post : Int32 → gx_S → Prop} (h : S_X10_named u v0 post) : Met l yX10_named (Cond.code yX10_named cX10_named 6 (some .int) :: gx_TB) (gx_rm 1) (gx_Pre Z u [.ref (Z.2.1 v0)]) (va_Qi post (gx_B Z) (gx_A Z)) 0 0 (gx_A Z) := by
  refine gx_met (by decide +kernel) (Nat.le_of_ble_eq_true rfl) ?_
  intro E X hZ hQ hD hL
  subst hZ
  exact w_X10_named X (Nat.le_of_eq hD.symm) hQ h

-- PlainSealModel.plainBody(Z)I
theorem dX10_plainBody_0 : decode cX10_plainBody 0 = .ok (.aload_n 0, 1) := by decide +kernel
theorem dX10_plainBody_1 : decode cX10_plainBody 1 = .ok (.getfield 146, 3) := by decide +kernel
theorem dX10_plainBody_4 : decode cX10_plainBody 4 = .ok (.ifCond .ne 6, 3) := by decide +kernel
theorem dX10_plainBody_7 : decode cX10_plainBody 7 = .ok (.bipush (-2), 2) := by decide +kernel
theorem dX10_plainBody_9 : decode cX10_plainBody 9 = .ok (.ireturn, 1) := by decide +kernel
theorem dX10_plainBody_10 : decode cX10_plainBody 10 = .ok (.aload_n 0, 1) := by decide +kernel
theorem dX10_plainBody_11 : decode cX10_plainBody 11 = .ok (.iload_n 1, 1) := by decide +kernel
theorem dX10_plainBody_12 : decode cX10_plainBody 12 = .ok (.invokevirtual 169, 3) := by decide +kernel
theorem dX10_plainBody_15 : decode cX10_plainBody 15 = .ok (.aload_n 0, 1) := by decide +kernel
theorem dX10_plainBody_16 : decode cX10_plainBody 16 = .ok (.aload_n 0, 1) := by decide +kernel
theorem dX10_plainBody_17 : decode cX10_plainBody 17 = .ok (.getfield 47, 3) := by decide +kernel
theorem dX10_plainBody_20 : decode cX10_plainBody 20 = .ok (.invokevirtual 173, 3) := by decide +kernel
theorem dX10_plainBody_23 : decode cX10_plainBody 23 = .ok (.ireturn, 1) := by decide +kernel
theorem hyX10_plainBody : yX10_plainBody.cls ≠ "java/lang/invoke/MethodHandle" ∧ yX10_plainBody.cls ≠ "java/lang/invoke/VarHandle" ∧ (parseMethodDescriptor yX10_plainBody.desc).map (fun d => d.parameters.length) = some 1 := by decide +kernel
def S_X10_plainBody (u : gx_S) (v0 : Nat) (v1 : Int32) (post : Int32 → gx_S → Prop) : Prop := (gx_isO v0 9 ∧ ((¬ (gx_i u v0 14) = 0 → (S_X10_bodyPlain u v0 v1 (fun (u2 : gx_S) => (S_X10_tell u2 v0 (gx_r u2 v0 15) (fun (r4 : Int32) (u3 : gx_S) => post r4 u3))))) ∧ ((gx_i u v0 14) = 0 → post (-2 : Int32) u)))
set_option maxHeartbeats 4000000 in
set_option maxRecDepth 100000 in
theorem w_X10_plainBody {E : gx_E} (X : gx_X E cX10_plainBody 2 RX10 (some .int)) (hd : 3 ≤ ex_d E) {post : Int32 → gx_S → Prop} (hQ : ex_Q E = va_Qi post (gx_B (ex_Z E)) (gx_A (ex_Z E))) {u : gx_S} {v0 : Nat} {v1 : Int32} (h : S_X10_plainBody u v0 v1 post) : gx_Wc E 2 0 [(0, .ref (ex_ad E v0)), (1, .int v1)] [] u := by
  unfold S_X10_plainBody at h
  refine gx_aload_n X (j := 0) dX10_plainBody_0 rfl rfl ?_
  obtain ⟨k1, h⟩ := h
  refine gx_get X k1 rfl iwX10 14 (by decide) mw_535 (v := .int (gx_i u v0 14)) rfl dX10_plainBody_1 ?_
  refine gx_if_ne X (tgt := 10) dX10_plainBody_4 (by decide) (fun c5 => ?_) (fun c5 => ?_)
  · replace h := h.1 c5
    refine gx_aload_n X (j := 0) dX10_plainBody_10 rfl rfl ?_
    refine gx_iload_n X (j := 1) dX10_plainBody_11 rfl rfl ?_
    refine gx_kv (gx_rV X (c_X10_bodyPlain h) (Nat.le_trans (by decide) hd) (Nat.le_trans (by decide) (Nat.mul_le_mul_left 40 hd)) k1 rfl mw_653 mw_655 mp_13 mw_7 mw_656 hyX10_bodyPlain (As := [.int v1]) (rest := []) rfl rfl (Nat.le_of_ble_eq_true rfl) dX10_plainBody_12) (fun u2 h => ?_)
    refine gx_aload_n X (j := 0) dX10_plainBody_15 rfl rfl ?_
    refine gx_aload_n X (j := 0) dX10_plainBody_16 rfl rfl ?_
    refine gx_get X k1 rfl iwX10 15 (by decide) mw_536 (v := .ref (ex_ad E (gx_r u2 v0 15))) rfl dX10_plainBody_17 ?_
    refine gx_ki (gx_rV X (c_X10_tell h) (Nat.le_trans (by decide) hd) (Nat.le_trans (by decide) (Nat.mul_le_mul_left 40 hd)) k1 rfl mw_661 mw_663 mp_14 mw_7 mw_664 hyX10_tell (As := [.ref (ex_ad E (gx_r u2 v0 15))]) (rest := []) rfl rfl (Nat.le_of_ble_eq_true rfl) dX10_plainBody_20) (fun r4 u3 h => ?_)
    exact gx_iret X hQ h dX10_plainBody_23
  · replace h := h.2 c5
    refine gx_bipush X (v := -2) dX10_plainBody_7 (by decide) ?_
    exact gx_iret X hQ h dX10_plainBody_9
theorem c_X10_plainBody {l : Launch} {Z : gx_Z} {u : gx_S} {v0 : Nat} {v1 : Int32} {post : Int32 → gx_S → Prop} (h : S_X10_plainBody u v0 v1 post) : Met l yX10_plainBody (Cond.code yX10_plainBody cX10_plainBody 2 (some .int) :: gx_TB) (gx_rm 3) (gx_Pre Z u [.ref (Z.2.1 v0), .int v1]) (va_Qi post (gx_B Z) (gx_A Z)) 0 0 (gx_A Z) := by
  refine gx_met (by decide +kernel) (Nat.le_of_ble_eq_true rfl) ?_
  intro E X hZ hQ hD hL
  subst hZ
  exact w_X10_plainBody X (Nat.le_of_eq hD.symm) hQ h
-- PlainSealModel.valueEnd(I)I
theorem dX10_valueEnd_0 : decode cX10_valueEnd 0 = .ok (.aload_n 0, 1) := by decide +kernel
theorem dX10_valueEnd_1 : decode cX10_valueEnd 1 = .ok (.getfield 20, 3) := by decide +kernel
theorem dX10_valueEnd_4 : decode cX10_valueEnd 4 = .ok (.aload_n 0, 1) := by decide +kernel
theorem dX10_valueEnd_5 : decode cX10_valueEnd 5 = .ok (.getfield 30, 3) := by decide +kernel
theorem dX10_valueEnd_8 : decode cX10_valueEnd 8 = .ok (.iload_n 1, 1) := by decide +kernel
theorem dX10_valueEnd_9 : decode cX10_valueEnd 9 = .ok (.iaload, 1) := by decide +kernel
theorem dX10_valueEnd_10 : decode cX10_valueEnd 10 = .ok (.iconst 1, 1) := by decide +kernel
theorem dX10_valueEnd_11 : decode cX10_valueEnd 11 = .ok (.isub, 1) := by decide +kernel
theorem dX10_valueEnd_12 : decode cX10_valueEnd 12 = .ok (.baload, 1) := by decide +kernel
theorem dX10_valueEnd_13 : decode cX10_valueEnd 13 = .ok (.bipush 10, 2) := by decide +kernel
theorem dX10_valueEnd_15 : decode cX10_valueEnd 15 = .ok (.if_icmp .ne 14, 3) := by decide +kernel
theorem dX10_valueEnd_18 : decode cX10_valueEnd 18 = .ok (.aload_n 0, 1) := by decide +kernel
theorem dX10_valueEnd_19 : decode cX10_valueEnd 19 = .ok (.getfield 30, 3) := by decide +kernel
theorem dX10_valueEnd_22 : decode cX10_valueEnd 22 = .ok (.iload_n 1, 1) := by decide +kernel
theorem dX10_valueEnd_23 : decode cX10_valueEnd 23 = .ok (.iaload, 1) := by decide +kernel
theorem dX10_valueEnd_24 : decode cX10_valueEnd 24 = .ok (.iconst 1, 1) := by decide +kernel
theorem dX10_valueEnd_25 : decode cX10_valueEnd 25 = .ok (.isub, 1) := by decide +kernel
theorem dX10_valueEnd_26 : decode cX10_valueEnd 26 = .ok (.goto 9, 3) := by decide +kernel
theorem dX10_valueEnd_29 : decode cX10_valueEnd 29 = .ok (.aload_n 0, 1) := by decide +kernel
theorem dX10_valueEnd_30 : decode cX10_valueEnd 30 = .ok (.getfield 30, 3) := by decide +kernel
theorem dX10_valueEnd_33 : decode cX10_valueEnd 33 = .ok (.iload_n 1, 1) := by decide +kernel
theorem dX10_valueEnd_34 : decode cX10_valueEnd 34 = .ok (.iaload, 1) := by decide +kernel
theorem dX10_valueEnd_35 : decode cX10_valueEnd 35 = .ok (.ireturn, 1) := by decide +kernel
theorem hyX10_valueEnd : yX10_valueEnd.cls ≠ "java/lang/invoke/MethodHandle" ∧ yX10_valueEnd.cls ≠ "java/lang/invoke/VarHandle" ∧ (parseMethodDescriptor yX10_valueEnd.desc).map (fun d => d.parameters.length) = some 1 := by decide +kernel
def S_X10_valueEnd (u : gx_S) (v0 : Nat) (v1 : Int32) (post : Int32 → gx_S → Prop) : Prop := (gx_isO v0 9 ∧ (gx_isR (gx_r u v0 7) .int ∧ vp_in v1 (gx_len (gx_r u v0 7)) ∧ (gx_isR (gx_r u v0 4) .byte ∧ vp_in ((gx_a u (gx_r u v0 7) v1.toNatClampNeg) - (1 : Int32)) (gx_len (gx_r u v0 4)) ∧ ((¬ (gx_a u (gx_r u v0 4) ((gx_a u (gx_r u v0 7) v1.toNatClampNeg) - (1 : Int32)).toNatClampNeg) = (10 : Int32) → (vp_in v1 (gx_len (gx_r u v0 7)) ∧ post (gx_a u (gx_r u v0 7) v1.toNatClampNeg) u)) ∧ ((gx_a u (gx_r u v0 4) ((gx_a u (gx_r u v0 7) v1.toNatClampNeg) - (1 : Int32)).toNatClampNeg) = (10 : Int32) → (vp_in v1 (gx_len (gx_r u v0 7)) ∧ post ((gx_a u (gx_r u v0 7) v1.toNatClampNeg) - (1 : Int32)) u))))))
set_option maxHeartbeats 4000000 in
set_option maxRecDepth 100000 in
theorem w_X10_valueEnd {E : gx_E} (X : gx_X E cX10_valueEnd 2 RX10 (some .int)) (hd : 0 ≤ ex_d E) {post : Int32 → gx_S → Prop} (hQ : ex_Q E = va_Qi post (gx_B (ex_Z E)) (gx_A (ex_Z E))) {u : gx_S} {v0 : Nat} {v1 : Int32} (h : S_X10_valueEnd u v0 v1 post) : gx_Wc E 2 0 [(0, .ref (ex_ad E v0)), (1, .int v1)] [] u := by
  unfold S_X10_valueEnd at h
  refine gx_aload_n X (j := 0) dX10_valueEnd_0 rfl rfl ?_
  obtain ⟨k1, h⟩ := h
  refine gx_get X k1 rfl iwX10 4 (by decide) mw_525 (v := .ref (ex_ad E (gx_r u v0 4))) rfl dX10_valueEnd_1 ?_
  refine gx_aload_n X (j := 0) dX10_valueEnd_4 rfl rfl ?_
  refine gx_get X k1 rfl iwX10 7 (by decide) mw_528 (v := .ref (ex_ad E (gx_r u v0 7))) rfl dX10_valueEnd_5 ?_
  refine gx_iload_n X (j := 1) dX10_valueEnd_8 rfl rfl ?_
  obtain ⟨k2, h⟩ := h
  obtain ⟨k3, h⟩ := h
  refine gx_iald X k2 k3 dX10_valueEnd_9 ?_
  refine gx_iconst X (v := 1) dX10_valueEnd_10 (by decide) ?_
  refine gx_isub X dX10_valueEnd_11 ?_
  obtain ⟨k4, h⟩ := h
  obtain ⟨k5, h⟩ := h
  refine gx_bald X k4 k5 dX10_valueEnd_12 ?_
  refine gx_bipush X (v := 10) dX10_valueEnd_13 (by decide) ?_
  refine gx_icmp_ne X (tgt := 29) dX10_valueEnd_15 (by decide) (fun c8 => ?_) (fun c8 => ?_)
  · replace h := h.1 c8
    refine gx_aload_n X (j := 0) dX10_valueEnd_29 rfl rfl ?_
    refine gx_get X k1 rfl iwX10 7 (by decide) mw_528 (v := .ref (ex_ad E (gx_r u v0 7))) rfl dX10_valueEnd_30 ?_
    refine gx_iload_n X (j := 1) dX10_valueEnd_33 rfl rfl ?_
    obtain ⟨k6, h⟩ := h
    refine gx_iald X k2 k6 dX10_valueEnd_34 ?_
    exact gx_iret X hQ h dX10_valueEnd_35
  · replace h := h.2 c8
    refine gx_aload_n X (j := 0) dX10_valueEnd_18 rfl rfl ?_
    refine gx_get X k1 rfl iwX10 7 (by decide) mw_528 (v := .ref (ex_ad E (gx_r u v0 7))) rfl dX10_valueEnd_19 ?_
    refine gx_iload_n X (j := 1) dX10_valueEnd_22 rfl rfl ?_
    obtain ⟨k7, h⟩ := h
    refine gx_iald X k2 k7 dX10_valueEnd_23 ?_
    refine gx_iconst X (v := 1) dX10_valueEnd_24 (by decide) ?_
    refine gx_isub X dX10_valueEnd_25 ?_
    refine gx_goto X (tgt := 35) dX10_valueEnd_26 (by decide) ?_
    exact gx_iret X hQ h dX10_valueEnd_35
theorem c_X10_valueEnd {l : Launch} {Z : gx_Z} {u : gx_S} {v0 : Nat} {v1 : Int32} {post : Int32 → gx_S → Prop} (h : S_X10_valueEnd u v0 v1 post) : Met l yX10_valueEnd (Cond.code yX10_valueEnd cX10_valueEnd 2 (some .int) :: gx_TB) (gx_rm 0) (gx_Pre Z u [.ref (Z.2.1 v0), .int v1]) (va_Qi post (gx_B Z) (gx_A Z)) 0 0 (gx_A Z) := by
  refine gx_met (by decide +kernel) (Nat.le_of_ble_eq_true rfl) ?_
  intro E X hZ hQ hD hL
  subst hZ
  exact w_X10_valueEnd X (Nat.le_of_eq hD.symm) hQ h
-- PlainSealModel.fieldPlain(IZII)V
theorem dX10_fieldPlain_0 : decode cX10_fieldPlain 0 = .ok (.aload_n 0, 1) := by decide +kernel
theorem dX10_fieldPlain_1 : decode cX10_fieldPlain 1 = .ok (.iload_n 1, 1) := by decide +kernel
theorem dX10_fieldPlain_2 : decode cX10_fieldPlain 2 = .ok (.invokevirtual 156, 3) := by decide +kernel
theorem dX10_fieldPlain_5 : decode cX10_fieldPlain 5 = .ok (.istore 5, 2) := by decide +kernel
theorem dX10_fieldPlain_7 : decode cX10_fieldPlain 7 = .ok (.iload_n 2, 1) := by decide +kernel
theorem dX10_fieldPlain_8 : decode cX10_fieldPlain 8 = .ok (.ifCond .ne 52, 3) := by decide +kernel
theorem dX10_fieldPlain_11 : decode cX10_fieldPlain 11 = .ok (.aload_n 0, 1) := by decide +kernel
theorem dX10_fieldPlain_12 : decode cX10_fieldPlain 12 = .ok (.getfield 23, 3) := by decide +kernel
theorem dX10_fieldPlain_15 : decode cX10_fieldPlain 15 = .ok (.iload_n 1, 1) := by decide +kernel
theorem dX10_fieldPlain_16 : decode cX10_fieldPlain 16 = .ok (.iaload, 1) := by decide +kernel
theorem dX10_fieldPlain_17 : decode cX10_fieldPlain 17 = .ok (.istore 6, 2) := by decide +kernel
theorem dX10_fieldPlain_19 : decode cX10_fieldPlain 19 = .ok (.iload 6, 2) := by decide +kernel
theorem dX10_fieldPlain_21 : decode cX10_fieldPlain 21 = .ok (.iload 5, 2) := by decide +kernel
theorem dX10_fieldPlain_23 : decode cX10_fieldPlain 23 = .ok (.if_icmp .ge 36, 3) := by decide +kernel
theorem dX10_fieldPlain_26 : decode cX10_fieldPlain 26 = .ok (.iload 6, 2) := by decide +kernel
theorem dX10_fieldPlain_28 : decode cX10_fieldPlain 28 = .ok (.iload_n 3, 1) := by decide +kernel
theorem dX10_fieldPlain_29 : decode cX10_fieldPlain 29 = .ok (.if_icmp .lt 10, 3) := by decide +kernel
theorem dX10_fieldPlain_32 : decode cX10_fieldPlain 32 = .ok (.iload 6, 2) := by decide +kernel
theorem dX10_fieldPlain_34 : decode cX10_fieldPlain 34 = .ok (.iload 4, 2) := by decide +kernel
theorem dX10_fieldPlain_36 : decode cX10_fieldPlain 36 = .ok (.if_icmp .lt 17, 3) := by decide +kernel
theorem dX10_fieldPlain_39 : decode cX10_fieldPlain 39 = .ok (.aload_n 0, 1) := by decide +kernel
theorem dX10_fieldPlain_40 : decode cX10_fieldPlain 40 = .ok (.getfield 47, 3) := by decide +kernel
theorem dX10_fieldPlain_43 : decode cX10_fieldPlain 43 = .ok (.aload_n 0, 1) := by decide +kernel
theorem dX10_fieldPlain_44 : decode cX10_fieldPlain 44 = .ok (.getfield 20, 3) := by decide +kernel
theorem dX10_fieldPlain_47 : decode cX10_fieldPlain 47 = .ok (.iload 6, 2) := by decide +kernel
theorem dX10_fieldPlain_49 : decode cX10_fieldPlain 49 = .ok (.baload, 1) := by decide +kernel
theorem dX10_fieldPlain_50 : decode cX10_fieldPlain 50 = .ok (.invokevirtual 153, 3) := by decide +kernel
theorem dX10_fieldPlain_53 : decode cX10_fieldPlain 53 = .ok (.iinc 6 1, 3) := by decide +kernel
theorem dX10_fieldPlain_56 : decode cX10_fieldPlain 56 = .ok (.goto (-37), 3) := by decide +kernel
theorem dX10_fieldPlain_59 : decode cX10_fieldPlain 59 = .ok (.return_, 1) := by decide +kernel
theorem dX10_fieldPlain_60 : decode cX10_fieldPlain 60 = .ok (.aload_n 0, 1) := by decide +kernel
theorem dX10_fieldPlain_61 : decode cX10_fieldPlain 61 = .ok (.getfield 23, 3) := by decide +kernel
theorem dX10_fieldPlain_64 : decode cX10_fieldPlain 64 = .ok (.iload_n 1, 1) := by decide +kernel
theorem dX10_fieldPlain_65 : decode cX10_fieldPlain 65 = .ok (.iaload, 1) := by decide +kernel
theorem dX10_fieldPlain_66 : decode cX10_fieldPlain 66 = .ok (.istore 6, 2) := by decide +kernel
theorem dX10_fieldPlain_68 : decode cX10_fieldPlain 68 = .ok (.iload 6, 2) := by decide +kernel
theorem dX10_fieldPlain_70 : decode cX10_fieldPlain 70 = .ok (.aload_n 0, 1) := by decide +kernel
theorem dX10_fieldPlain_71 : decode cX10_fieldPlain 71 = .ok (.getfield 27, 3) := by decide +kernel
theorem dX10_fieldPlain_74 : decode cX10_fieldPlain 74 = .ok (.iload_n 1, 1) := by decide +kernel
theorem dX10_fieldPlain_75 : decode cX10_fieldPlain 75 = .ok (.iaload, 1) := by decide +kernel
theorem dX10_fieldPlain_76 : decode cX10_fieldPlain 76 = .ok (.if_icmp .ge 26, 3) := by decide +kernel
theorem dX10_fieldPlain_79 : decode cX10_fieldPlain 79 = .ok (.aload_n 0, 1) := by decide +kernel
theorem dX10_fieldPlain_80 : decode cX10_fieldPlain 80 = .ok (.getfield 47, 3) := by decide +kernel
theorem dX10_fieldPlain_83 : decode cX10_fieldPlain 83 = .ok (.aload_n 0, 1) := by decide +kernel
theorem dX10_fieldPlain_84 : decode cX10_fieldPlain 84 = .ok (.getfield 20, 3) := by decide +kernel
theorem dX10_fieldPlain_87 : decode cX10_fieldPlain 87 = .ok (.iload 6, 2) := by decide +kernel
theorem dX10_fieldPlain_89 : decode cX10_fieldPlain 89 = .ok (.baload, 1) := by decide +kernel
theorem dX10_fieldPlain_90 : decode cX10_fieldPlain 90 = .ok (.invokestatic 160, 3) := by decide +kernel
theorem dX10_fieldPlain_93 : decode cX10_fieldPlain 93 = .ok (.invokevirtual 153, 3) := by decide +kernel
theorem dX10_fieldPlain_96 : decode cX10_fieldPlain 96 = .ok (.iinc 6 1, 3) := by decide +kernel
theorem dX10_fieldPlain_99 : decode cX10_fieldPlain 99 = .ok (.goto (-31), 3) := by decide +kernel
theorem dX10_fieldPlain_102 : decode cX10_fieldPlain 102 = .ok (.aload_n 0, 1) := by decide +kernel
theorem dX10_fieldPlain_103 : decode cX10_fieldPlain 103 = .ok (.getfield 47, 3) := by decide +kernel
theorem dX10_fieldPlain_106 : decode cX10_fieldPlain 106 = .ok (.bipush 58, 2) := by decide +kernel
theorem dX10_fieldPlain_108 : decode cX10_fieldPlain 108 = .ok (.invokevirtual 153, 3) := by decide +kernel
theorem dX10_fieldPlain_111 : decode cX10_fieldPlain 111 = .ok (.iconst 0, 1) := by decide +kernel
theorem dX10_fieldPlain_112 : decode cX10_fieldPlain 112 = .ok (.istore 6, 2) := by decide +kernel
theorem dX10_fieldPlain_114 : decode cX10_fieldPlain 114 = .ok (.iconst 0, 1) := by decide +kernel
theorem dX10_fieldPlain_115 : decode cX10_fieldPlain 115 = .ok (.istore 7, 2) := by decide +kernel
theorem dX10_fieldPlain_117 : decode cX10_fieldPlain 117 = .ok (.aload_n 0, 1) := by decide +kernel
theorem dX10_fieldPlain_118 : decode cX10_fieldPlain 118 = .ok (.getfield 27, 3) := by decide +kernel
theorem dX10_fieldPlain_121 : decode cX10_fieldPlain 121 = .ok (.iload_n 1, 1) := by decide +kernel
theorem dX10_fieldPlain_122 : decode cX10_fieldPlain 122 = .ok (.iaload, 1) := by decide +kernel
theorem dX10_fieldPlain_123 : decode cX10_fieldPlain 123 = .ok (.iconst 1, 1) := by decide +kernel
theorem dX10_fieldPlain_124 : decode cX10_fieldPlain 124 = .ok (.iadd, 1) := by decide +kernel
theorem dX10_fieldPlain_125 : decode cX10_fieldPlain 125 = .ok (.istore 8, 2) := by decide +kernel
theorem dX10_fieldPlain_127 : decode cX10_fieldPlain 127 = .ok (.iload 8, 2) := by decide +kernel
theorem dX10_fieldPlain_129 : decode cX10_fieldPlain 129 = .ok (.iload 5, 2) := by decide +kernel
theorem dX10_fieldPlain_131 : decode cX10_fieldPlain 131 = .ok (.if_icmp .ge 95, 3) := by decide +kernel
theorem dX10_fieldPlain_134 : decode cX10_fieldPlain 134 = .ok (.iload 8, 2) := by decide +kernel
theorem dX10_fieldPlain_136 : decode cX10_fieldPlain 136 = .ok (.iload_n 3, 1) := by decide +kernel
theorem dX10_fieldPlain_137 : decode cX10_fieldPlain 137 = .ok (.if_icmp .lt 10, 3) := by decide +kernel
theorem dX10_fieldPlain_140 : decode cX10_fieldPlain 140 = .ok (.iload 8, 2) := by decide +kernel
theorem dX10_fieldPlain_142 : decode cX10_fieldPlain 142 = .ok (.iload 4, 2) := by decide +kernel
theorem dX10_fieldPlain_144 : decode cX10_fieldPlain 144 = .ok (.if_icmp .lt 76, 3) := by decide +kernel
theorem dX10_fieldPlain_147 : decode cX10_fieldPlain 147 = .ok (.aload_n 0, 1) := by decide +kernel
theorem dX10_fieldPlain_148 : decode cX10_fieldPlain 148 = .ok (.getfield 20, 3) := by decide +kernel
theorem dX10_fieldPlain_151 : decode cX10_fieldPlain 151 = .ok (.iload 8, 2) := by decide +kernel
theorem dX10_fieldPlain_153 : decode cX10_fieldPlain 153 = .ok (.baload, 1) := by decide +kernel
theorem dX10_fieldPlain_154 : decode cX10_fieldPlain 154 = .ok (.bipush 10, 2) := by decide +kernel
theorem dX10_fieldPlain_156 : decode cX10_fieldPlain 156 = .ok (.if_icmp .ne 6, 3) := by decide +kernel
theorem dX10_fieldPlain_159 : decode cX10_fieldPlain 159 = .ok (.goto 61, 3) := by decide +kernel
theorem dX10_fieldPlain_162 : decode cX10_fieldPlain 162 = .ok (.aload_n 0, 1) := by decide +kernel
theorem dX10_fieldPlain_163 : decode cX10_fieldPlain 163 = .ok (.getfield 20, 3) := by decide +kernel
theorem dX10_fieldPlain_166 : decode cX10_fieldPlain 166 = .ok (.iload 8, 2) := by decide +kernel
theorem dX10_fieldPlain_168 : decode cX10_fieldPlain 168 = .ok (.baload, 1) := by decide +kernel
theorem dX10_fieldPlain_169 : decode cX10_fieldPlain 169 = .ok (.invokestatic 120, 3) := by decide +kernel
theorem dX10_fieldPlain_172 : decode cX10_fieldPlain 172 = .ok (.ifCond .eq 9, 3) := by decide +kernel
theorem dX10_fieldPlain_175 : decode cX10_fieldPlain 175 = .ok (.iconst 1, 1) := by decide +kernel
theorem dX10_fieldPlain_176 : decode cX10_fieldPlain 176 = .ok (.istore 7, 2) := by decide +kernel
theorem dX10_fieldPlain_178 : decode cX10_fieldPlain 178 = .ok (.goto 42, 3) := by decide +kernel
theorem dX10_fieldPlain_181 : decode cX10_fieldPlain 181 = .ok (.iload 7, 2) := by decide +kernel
theorem dX10_fieldPlain_183 : decode cX10_fieldPlain 183 = .ok (.ifCond .eq 17, 3) := by decide +kernel
theorem dX10_fieldPlain_186 : decode cX10_fieldPlain 186 = .ok (.iload 6, 2) := by decide +kernel
theorem dX10_fieldPlain_188 : decode cX10_fieldPlain 188 = .ok (.ifCond .eq 12, 3) := by decide +kernel
theorem dX10_fieldPlain_191 : decode cX10_fieldPlain 191 = .ok (.aload_n 0, 1) := by decide +kernel
theorem dX10_fieldPlain_192 : decode cX10_fieldPlain 192 = .ok (.getfield 47, 3) := by decide +kernel
theorem dX10_fieldPlain_195 : decode cX10_fieldPlain 195 = .ok (.bipush 32, 2) := by decide +kernel
theorem dX10_fieldPlain_197 : decode cX10_fieldPlain 197 = .ok (.invokevirtual 153, 3) := by decide +kernel
theorem dX10_fieldPlain_200 : decode cX10_fieldPlain 200 = .ok (.iconst 0, 1) := by decide +kernel
theorem dX10_fieldPlain_201 : decode cX10_fieldPlain 201 = .ok (.istore 7, 2) := by decide +kernel
theorem dX10_fieldPlain_203 : decode cX10_fieldPlain 203 = .ok (.iconst 1, 1) := by decide +kernel
theorem dX10_fieldPlain_204 : decode cX10_fieldPlain 204 = .ok (.istore 6, 2) := by decide +kernel
theorem dX10_fieldPlain_206 : decode cX10_fieldPlain 206 = .ok (.aload_n 0, 1) := by decide +kernel
theorem dX10_fieldPlain_207 : decode cX10_fieldPlain 207 = .ok (.getfield 47, 3) := by decide +kernel
theorem dX10_fieldPlain_210 : decode cX10_fieldPlain 210 = .ok (.aload_n 0, 1) := by decide +kernel
theorem dX10_fieldPlain_211 : decode cX10_fieldPlain 211 = .ok (.getfield 20, 3) := by decide +kernel
theorem dX10_fieldPlain_214 : decode cX10_fieldPlain 214 = .ok (.iload 8, 2) := by decide +kernel
theorem dX10_fieldPlain_216 : decode cX10_fieldPlain 216 = .ok (.baload, 1) := by decide +kernel
theorem dX10_fieldPlain_217 : decode cX10_fieldPlain 217 = .ok (.invokevirtual 153, 3) := by decide +kernel
theorem dX10_fieldPlain_220 : decode cX10_fieldPlain 220 = .ok (.iinc 8 1, 3) := by decide +kernel
theorem dX10_fieldPlain_223 : decode cX10_fieldPlain 223 = .ok (.goto (-96), 3) := by decide +kernel
theorem dX10_fieldPlain_226 : decode cX10_fieldPlain 226 = .ok (.return_, 1) := by decide +kernel
theorem hyX10_fieldPlain : yX10_fieldPlain.cls ≠ "java/lang/invoke/MethodHandle" ∧ yX10_fieldPlain.cls ≠ "java/lang/invoke/VarHandle" ∧ (parseMethodDescriptor yX10_fieldPlain.desc).map (fun d => d.parameters.length) = some 4 := by decide +kernel
abbrev J_X10_fieldPlain_19 (E : gx_E) (v0 : Nat) (v1 : Int32) (v2 : Int32) (v3 : Int32) (v4 : Int32) (v5 : Int32) (v6 : Int32) (u : gx_S) : Prop := gx_Wc E 9 19 [(0, .ref (ex_ad E v0)), (1, .int v1), (2, .int v2), (3, .int v3), (4, .int v4), (5, .int v5), (6, .int v6)] [] u
abbrev J_X10_fieldPlain_68 (E : gx_E) (v0 : Nat) (v1 : Int32) (v2 : Int32) (v3 : Int32) (v4 : Int32) (v5 : Int32) (v6 : Int32) (u : gx_S) : Prop := gx_Wc E 9 68 [(0, .ref (ex_ad E v0)), (1, .int v1), (2, .int v2), (3, .int v3), (4, .int v4), (5, .int v5), (6, .int v6)] [] u
abbrev J_X10_fieldPlain_127 (E : gx_E) (v0 : Nat) (v1 : Int32) (v2 : Int32) (v3 : Int32) (v4 : Int32) (v5 : Int32) (v6 : Int32) (v7 : Int32) (v8 : Int32) (u : gx_S) : Prop := gx_Wc E 9 127 [(0, .ref (ex_ad E v0)), (1, .int v1), (2, .int v2), (3, .int v3), (4, .int v4), (5, .int v5), (6, .int v6), (7, .int v7), (8, .int v8)] [] u
abbrev J_X10_fieldPlain_220 (E : gx_E) (v0 : Nat) (v1 : Int32) (v2 : Int32) (v3 : Int32) (v4 : Int32) (v5 : Int32) (v6 : Int32) (v7 : Int32) (v8 : Int32) (u : gx_S) : Prop := gx_Wc E 9 220 [(0, .ref (ex_ad E v0)), (1, .int v1), (2, .int v2), (3, .int v3), (4, .int v4), (5, .int v5), (6, .int v6), (7, .int v7), (8, .int v8)] [] u
set_option maxHeartbeats 4000000 in
set_option maxRecDepth 100000 in
theorem w_X10_fieldPlain_0 {E : gx_E} (X : gx_X E cX10_fieldPlain 9 RX10 none) (hd : 1 ≤ ex_d E) {post : gx_S → Prop} (hQ : ex_Q E = va_Qv post (gx_B (ex_Z E)) (gx_A (ex_Z E))) {u : gx_S} {v0 : Nat} {v1 : Int32} {v2 : Int32} {v3 : Int32} {v4 : Int32} (h : (gx_isO v0 9 ∧ S_X10_valueEnd u v0 v1 (fun (r3 : Int32) (u2 : gx_S) => ((¬ v2 = 0 → (gx_isR (gx_r u2 v0 5) .int ∧ vp_in v1 (gx_len (gx_r u2 v0 5)) ∧ (∀ x6 : Int32, x6 = (gx_a u2 (gx_r u2 v0 5) v1.toNatClampNeg) → J_X10_fieldPlain_68 E v0 v1 v2 v3 v4 r3 x6 u2))) ∧ (v2 = 0 → (gx_isR (gx_r u2 v0 5) .int ∧ vp_in v1 (gx_len (gx_r u2 v0 5)) ∧ (∀ x9 : Int32, x9 = (gx_a u2 (gx_r u2 v0 5) v1.toNatClampNeg) → J_X10_fieldPlain_19 E v0 v1 v2 v3 v4 r3 x9 u2))))))) : gx_Wc E 9 0 [(0, .ref (ex_ad E v0)), (1, .int v1), (2, .int v2), (3, .int v3), (4, .int v4)] [] u := by
  refine gx_aload_n X (j := 0) dX10_fieldPlain_0 rfl rfl ?_
  refine gx_iload_n X (j := 1) dX10_fieldPlain_1 rfl rfl ?_
  obtain ⟨k1, h⟩ := h
  refine gx_ki (gx_rV X (c_X10_valueEnd h) (Nat.le_trans (by decide) hd) (Nat.le_trans (by decide) (Nat.mul_le_mul_left 40 hd)) k1 rfl mw_673 mw_675 mp_16 mw_7 mw_676 hyX10_valueEnd (As := [.int v1]) (rest := []) rfl rfl (Nat.le_of_ble_eq_true rfl) dX10_fieldPlain_2) (fun r3 u2 h => ?_)
  refine gx_istore X (lv' := [(5, .int r3), (0, .ref (ex_ad E v0)), (1, .int v1), (2, .int v2), (3, .int v3), (4, .int v4)]) dX10_fieldPlain_5 (by decide) rfl ?_
  refine gx_iload_n X (j := 3) dX10_fieldPlain_7 rfl rfl ?_
  refine gx_if_ne X (tgt := 60) dX10_fieldPlain_8 (by decide) (fun c10 => ?_) (fun c10 => ?_)
  · replace h := h.1 c10
    refine gx_aload_n X (j := 1) dX10_fieldPlain_60 rfl rfl ?_
    refine gx_get X k1 rfl iwX10 5 (by decide) mw_526 (v := .ref (ex_ad E (gx_r u2 v0 5))) rfl dX10_fieldPlain_61 ?_
    refine gx_iload_n X (j := 2) dX10_fieldPlain_64 rfl rfl ?_
    obtain ⟨k4, h⟩ := h
    obtain ⟨k5, h⟩ := h
    refine gx_iald X k4 k5 dX10_fieldPlain_65 ?_
    refine gx_nami (fun x6 ex6 => ?_)
    replace h := h x6 ex6
    refine gx_istore X (lv' := [(6, .int x6), (5, .int r3), (0, .ref (ex_ad E v0)), (1, .int v1), (2, .int v2), (3, .int v3), (4, .int v4)]) dX10_fieldPlain_66 (by decide) rfl ?_
    exact gx_sub [2, 3, 4, 5, 6, 1, 0] rfl h
  · replace h := h.2 c10
    refine gx_aload_n X (j := 1) dX10_fieldPlain_11 rfl rfl ?_
    refine gx_get X k1 rfl iwX10 5 (by decide) mw_526 (v := .ref (ex_ad E (gx_r u2 v0 5))) rfl dX10_fieldPlain_12 ?_
    refine gx_iload_n X (j := 2) dX10_fieldPlain_15 rfl rfl ?_
    obtain ⟨k7, h⟩ := h
    obtain ⟨k8, h⟩ := h
    refine gx_iald X k7 k8 dX10_fieldPlain_16 ?_
    refine gx_nami (fun x9 ex9 => ?_)
    replace h := h x9 ex9
    refine gx_istore X (lv' := [(6, .int x9), (5, .int r3), (0, .ref (ex_ad E v0)), (1, .int v1), (2, .int v2), (3, .int v3), (4, .int v4)]) dX10_fieldPlain_17 (by decide) rfl ?_
    exact gx_sub [2, 3, 4, 5, 6, 1, 0] rfl h
set_option maxHeartbeats 4000000 in
set_option maxRecDepth 100000 in
theorem w_X10_fieldPlain_19 {E : gx_E} (X : gx_X E cX10_fieldPlain 9 RX10 none) (hd : 1 ≤ ex_d E) {post : gx_S → Prop} (hQ : ex_Q E = va_Qv post (gx_B (ex_Z E)) (gx_A (ex_Z E))) {u : gx_S} {v0 : Nat} {v1 : Int32} {v2 : Int32} {v3 : Int32} {v4 : Int32} {v5 : Int32} {v6 : Int32} (h : ((v5 ≤ v6 → post u) ∧ (¬ v5 ≤ v6 → ((v6 < v3 → (gx_isO v0 9 ∧ (gx_isR (gx_r u v0 4) .byte ∧ vp_in v6 (gx_len (gx_r u v0 4)) ∧ (gx_isO (gx_r u v0 15) 8 ∧ S_X9_add u (gx_r u v0 15) (gx_a u (gx_r u v0 4) v6.toNatClampNeg) (fun (u5 : gx_S) => (∀ x6 : Int32, x6 = v6 + 1 → J_X10_fieldPlain_19 E v0 v1 v2 v3 v4 v5 x6 u5)))))) ∧ (¬ v6 < v3 → ((v6 < v4 → (∀ x7 : Int32, x7 = v6 + 1 → J_X10_fieldPlain_19 E v0 v1 v2 v3 v4 v5 x7 u)) ∧ (¬ v6 < v4 → (gx_isO v0 9 ∧ (gx_isR (gx_r u v0 4) .byte ∧ vp_in v6 (gx_len (gx_r u v0 4)) ∧ (gx_isO (gx_r u v0 15) 8 ∧ S_X9_add u (gx_r u v0 15) (gx_a u (gx_r u v0 4) v6.toNatClampNeg) (fun (u12 : gx_S) => (∀ x13 : Int32, x13 = v6 + 1 → J_X10_fieldPlain_19 E v0 v1 v2 v3 v4 v5 x13 u12)))))))))))) : gx_Wc E 9 19 [(0, .ref (ex_ad E v0)), (1, .int v1), (2, .int v2), (3, .int v3), (4, .int v4), (5, .int v5), (6, .int v6)] [] u := by
  refine gx_iload X (j := 6) dX10_fieldPlain_19 rfl ?_
  refine gx_iload X (j := 5) dX10_fieldPlain_21 rfl ?_
  refine gx_icmp_ge X (tgt := 59) dX10_fieldPlain_23 (by decide) (fun c16 => ?_) (fun c16 => ?_)
  · replace h := h.1 c16
    exact gx_vret X hQ h dX10_fieldPlain_59
  · replace h := h.2 c16
    refine gx_iload X (j := 6) dX10_fieldPlain_26 rfl ?_
    refine gx_iload_n X (j := 3) dX10_fieldPlain_28 rfl rfl ?_
    refine gx_icmp_lt X (tgt := 39) dX10_fieldPlain_29 (by decide) (fun c15 => ?_) (fun c15 => ?_)
    · replace h := h.1 c15
      refine gx_aload_n X (j := 0) dX10_fieldPlain_39 rfl rfl ?_
      obtain ⟨k1, h⟩ := h
      refine gx_get X k1 rfl iwX10 15 (by decide) mw_536 (v := .ref (ex_ad E (gx_r u v0 15))) rfl dX10_fieldPlain_40 ?_
      refine gx_aload_n X (j := 0) dX10_fieldPlain_43 rfl rfl ?_
      refine gx_get X k1 rfl iwX10 4 (by decide) mw_525 (v := .ref (ex_ad E (gx_r u v0 4))) rfl dX10_fieldPlain_44 ?_
      refine gx_iload X (j := 6) dX10_fieldPlain_47 rfl ?_
      obtain ⟨k2, h⟩ := h
      obtain ⟨k3, h⟩ := h
      refine gx_bald X k2 k3 dX10_fieldPlain_49 ?_
      obtain ⟨k4, h⟩ := h
      refine gx_kv (gx_rV X (c_X9_add h) (Nat.le_trans (by decide) hd) (Nat.le_trans (by decide) (Nat.mul_le_mul_left 40 hd)) k4 rfl mw_657 mw_658 mw_659 mw_8 mw_660 hyX9_add (As := [.int (gx_a u (gx_r u v0 4) v6.toNatClampNeg)]) (rest := []) rfl rfl (Nat.le_of_ble_eq_true rfl) dX10_fieldPlain_50) (fun u5 h => ?_)
      obtain ⟨x6, ex6⟩ : ∃ y : Int32, y = v6 + 1 := ⟨_, rfl⟩
      replace h := h x6 ex6
      refine gx_iinc X (v := x6) (lv' := [(6, .int x6), (0, .ref (ex_ad E v0)), (1, .int v1), (2, .int v2), (3, .int v3), (4, .int v4), (5, .int v5)]) dX10_fieldPlain_53 (j := 6) rfl (by rw [ex6]; rfl) (by decide) rfl ?_
      refine gx_goto X (tgt := 19) dX10_fieldPlain_56 (by decide) ?_
      exact gx_sub [1, 2, 3, 4, 5, 6, 0] rfl h
    · replace h := h.2 c15
      refine gx_iload X (j := 6) dX10_fieldPlain_32 rfl ?_
      refine gx_iload X (j := 4) dX10_fieldPlain_34 rfl ?_
      refine gx_icmp_lt X (tgt := 53) dX10_fieldPlain_36 (by decide) (fun c14 => ?_) (fun c14 => ?_)
      · replace h := h.1 c14
        obtain ⟨x7, ex7⟩ : ∃ y : Int32, y = v6 + 1 := ⟨_, rfl⟩
        replace h := h x7 ex7
        refine gx_iinc X (v := x7) (lv' := [(6, .int x7), (0, .ref (ex_ad E v0)), (1, .int v1), (2, .int v2), (3, .int v3), (4, .int v4), (5, .int v5)]) dX10_fieldPlain_53 (j := 6) rfl (by rw [ex7]; rfl) (by decide) rfl ?_
        refine gx_goto X (tgt := 19) dX10_fieldPlain_56 (by decide) ?_
        exact gx_sub [1, 2, 3, 4, 5, 6, 0] rfl h
      · replace h := h.2 c14
        refine gx_aload_n X (j := 0) dX10_fieldPlain_39 rfl rfl ?_
        obtain ⟨k8, h⟩ := h
        refine gx_get X k8 rfl iwX10 15 (by decide) mw_536 (v := .ref (ex_ad E (gx_r u v0 15))) rfl dX10_fieldPlain_40 ?_
        refine gx_aload_n X (j := 0) dX10_fieldPlain_43 rfl rfl ?_
        refine gx_get X k8 rfl iwX10 4 (by decide) mw_525 (v := .ref (ex_ad E (gx_r u v0 4))) rfl dX10_fieldPlain_44 ?_
        refine gx_iload X (j := 6) dX10_fieldPlain_47 rfl ?_
        obtain ⟨k9, h⟩ := h
        obtain ⟨k10, h⟩ := h
        refine gx_bald X k9 k10 dX10_fieldPlain_49 ?_
        obtain ⟨k11, h⟩ := h
        refine gx_kv (gx_rV X (c_X9_add h) (Nat.le_trans (by decide) hd) (Nat.le_trans (by decide) (Nat.mul_le_mul_left 40 hd)) k11 rfl mw_657 mw_658 mw_659 mw_8 mw_660 hyX9_add (As := [.int (gx_a u (gx_r u v0 4) v6.toNatClampNeg)]) (rest := []) rfl rfl (Nat.le_of_ble_eq_true rfl) dX10_fieldPlain_50) (fun u12 h => ?_)
        obtain ⟨x13, ex13⟩ : ∃ y : Int32, y = v6 + 1 := ⟨_, rfl⟩
        replace h := h x13 ex13
        refine gx_iinc X (v := x13) (lv' := [(6, .int x13), (0, .ref (ex_ad E v0)), (1, .int v1), (2, .int v2), (3, .int v3), (4, .int v4), (5, .int v5)]) dX10_fieldPlain_53 (j := 6) rfl (by rw [ex13]; rfl) (by decide) rfl ?_
        refine gx_goto X (tgt := 19) dX10_fieldPlain_56 (by decide) ?_
        exact gx_sub [1, 2, 3, 4, 5, 6, 0] rfl h
set_option maxHeartbeats 4000000 in
set_option maxRecDepth 100000 in
theorem w_X10_fieldPlain_68 {E : gx_E} (X : gx_X E cX10_fieldPlain 9 RX10 none) (hd : 1 ≤ ex_d E) {post : gx_S → Prop} (hQ : ex_Q E = va_Qv post (gx_B (ex_Z E)) (gx_A (ex_Z E))) {u : gx_S} {v0 : Nat} {v1 : Int32} {v2 : Int32} {v3 : Int32} {v4 : Int32} {v5 : Int32} {v6 : Int32} (h : (gx_isO v0 9 ∧ (gx_isR (gx_r u v0 6) .int ∧ vp_in v1 (gx_len (gx_r u v0 6)) ∧ (((gx_a u (gx_r u v0 6) v1.toNatClampNeg) ≤ v6 → (gx_isO (gx_r u v0 15) 8 ∧ S_X9_add u (gx_r u v0 15) (58 : Int32) (fun (u5 : gx_S) => (gx_isR (gx_r u5 v0 6) .int ∧ vp_in v1 (gx_len (gx_r u5 v0 6)) ∧ (∀ x8 : Int32, x8 = ((gx_a u5 (gx_r u5 v0 6) v1.toNatClampNeg) + (1 : Int32)) → J_X10_fieldPlain_127 E v0 v1 v2 v3 v4 v5 (0 : Int32) (0 : Int32) x8 u5))))) ∧ (¬ (gx_a u (gx_r u v0 6) v1.toNatClampNeg) ≤ v6 → (gx_isR (gx_r u v0 4) .byte ∧ vp_in v6 (gx_len (gx_r u v0 4)) ∧ (S_X10_small u (gx_a u (gx_r u v0 4) v6.toNatClampNeg) (fun (r12 : Int32) (u11 : gx_S) => (gx_isO (gx_r u v0 15) 8 ∧ S_X9_add u11 (gx_r u v0 15) r12 (fun (u14 : gx_S) => (∀ x15 : Int32, x15 = v6 + 1 → J_X10_fieldPlain_68 E v0 v1 v2 v3 v4 v5 x15 u14))))))))))) : gx_Wc E 9 68 [(0, .ref (ex_ad E v0)), (1, .int v1), (2, .int v2), (3, .int v3), (4, .int v4), (5, .int v5), (6, .int v6)] [] u := by
  refine gx_iload X (j := 6) dX10_fieldPlain_68 rfl ?_
  refine gx_aload_n X (j := 0) dX10_fieldPlain_70 rfl rfl ?_
  obtain ⟨k1, h⟩ := h
  refine gx_get X k1 rfl iwX10 6 (by decide) mw_527 (v := .ref (ex_ad E (gx_r u v0 6))) rfl dX10_fieldPlain_71 ?_
  refine gx_iload_n X (j := 1) dX10_fieldPlain_74 rfl rfl ?_
  obtain ⟨k2, h⟩ := h
  obtain ⟨k3, h⟩ := h
  refine gx_iald X k2 k3 dX10_fieldPlain_75 ?_
  refine gx_icmp_ge X (tgt := 102) dX10_fieldPlain_76 (by decide) (fun c16 => ?_) (fun c16 => ?_)
  · replace h := h.1 c16
    refine gx_aload_n X (j := 0) dX10_fieldPlain_102 rfl rfl ?_
    refine gx_get X k1 rfl iwX10 15 (by decide) mw_536 (v := .ref (ex_ad E (gx_r u v0 15))) rfl dX10_fieldPlain_103 ?_
    refine gx_bipush X (v := 58) dX10_fieldPlain_106 (by decide) ?_
    obtain ⟨k4, h⟩ := h
    refine gx_kv (gx_rV X (c_X9_add h) (Nat.le_trans (by decide) hd) (Nat.le_trans (by decide) (Nat.mul_le_mul_left 40 hd)) k4 rfl mw_657 mw_658 mw_659 mw_8 mw_660 hyX9_add (As := [.int (58 : Int32)]) (rest := []) rfl rfl (Nat.le_of_ble_eq_true rfl) dX10_fieldPlain_108) (fun u5 h => ?_)
    refine gx_iconst X (v := 0) dX10_fieldPlain_111 (by decide) ?_
    refine gx_istore X (lv' := [(6, .int (0 : Int32)), (0, .ref (ex_ad E v0)), (1, .int v1), (2, .int v2), (3, .int v3), (4, .int v4), (5, .int v5)]) dX10_fieldPlain_112 (by decide) rfl ?_
    refine gx_iconst X (v := 0) dX10_fieldPlain_114 (by decide) ?_
    refine gx_istore X (lv' := [(7, .int (0 : Int32)), (6, .int (0 : Int32)), (0, .ref (ex_ad E v0)), (1, .int v1), (2, .int v2), (3, .int v3), (4, .int v4), (5, .int v5)]) dX10_fieldPlain_115 (by decide) rfl ?_
    refine gx_aload_n X (j := 2) dX10_fieldPlain_117 rfl rfl ?_
    refine gx_get X k1 rfl iwX10 6 (by decide) mw_527 (v := .ref (ex_ad E (gx_r u5 v0 6))) rfl dX10_fieldPlain_118 ?_
    refine gx_iload_n X (j := 3) dX10_fieldPlain_121 rfl rfl ?_
    obtain ⟨k6, h⟩ := h
    obtain ⟨k7, h⟩ := h
    refine gx_iald X k6 k7 dX10_fieldPlain_122 ?_
    refine gx_iconst X (v := 1) dX10_fieldPlain_123 (by decide) ?_
    refine gx_iadd X dX10_fieldPlain_124 ?_
    refine gx_nami (fun x8 ex8 => ?_)
    replace h := h x8 ex8
    refine gx_istore X (lv' := [(8, .int x8), (7, .int (0 : Int32)), (6, .int (0 : Int32)), (0, .ref (ex_ad E v0)), (1, .int v1), (2, .int v2), (3, .int v3), (4, .int v4), (5, .int v5)]) dX10_fieldPlain_125 (by decide) rfl ?_
    exact gx_sub [3, 4, 5, 6, 7, 8, 2, 1, 0] rfl h
  · replace h := h.2 c16
    refine gx_aload_n X (j := 0) dX10_fieldPlain_79 rfl rfl ?_
    refine gx_get X k1 rfl iwX10 15 (by decide) mw_536 (v := .ref (ex_ad E (gx_r u v0 15))) rfl dX10_fieldPlain_80 ?_
    refine gx_aload_n X (j := 0) dX10_fieldPlain_83 rfl rfl ?_
    refine gx_get X k1 rfl iwX10 4 (by decide) mw_525 (v := .ref (ex_ad E (gx_r u v0 4))) rfl dX10_fieldPlain_84 ?_
    refine gx_iload X (j := 6) dX10_fieldPlain_87 rfl ?_
    obtain ⟨k9, h⟩ := h
    obtain ⟨k10, h⟩ := h
    refine gx_bald X k9 k10 dX10_fieldPlain_89 ?_
    refine gx_ki (gx_rS X (c_X10_small h) (Nat.le_trans (by decide) hd) (Nat.le_trans (by decide) (Nat.mul_le_mul_left 40 hd)) mw_677 mw_678 mw_7 mw_679 hyX10_small (As := [.int (gx_a u (gx_r u v0 4) v6.toNatClampNeg)]) (rest := [.ref (ex_ad E (gx_r u v0 15))]) rfl rfl (Nat.le_of_ble_eq_true rfl) dX10_fieldPlain_90) (fun r12 u11 h => ?_)
    obtain ⟨k13, h⟩ := h
    refine gx_kv (gx_rV X (c_X9_add h) (Nat.le_trans (by decide) hd) (Nat.le_trans (by decide) (Nat.mul_le_mul_left 40 hd)) k13 rfl mw_657 mw_658 mw_659 mw_8 mw_660 hyX9_add (As := [.int r12]) (rest := []) rfl rfl (Nat.le_of_ble_eq_true rfl) dX10_fieldPlain_93) (fun u14 h => ?_)
    obtain ⟨x15, ex15⟩ : ∃ y : Int32, y = v6 + 1 := ⟨_, rfl⟩
    replace h := h x15 ex15
    refine gx_iinc X (v := x15) (lv' := [(6, .int x15), (0, .ref (ex_ad E v0)), (1, .int v1), (2, .int v2), (3, .int v3), (4, .int v4), (5, .int v5)]) dX10_fieldPlain_96 (j := 6) rfl (by rw [ex15]; rfl) (by decide) rfl ?_
    refine gx_goto X (tgt := 68) dX10_fieldPlain_99 (by decide) ?_
    exact gx_sub [1, 2, 3, 4, 5, 6, 0] rfl h
set_option maxHeartbeats 4000000 in
set_option maxRecDepth 100000 in
theorem w_X10_fieldPlain_127 {E : gx_E} (X : gx_X E cX10_fieldPlain 9 RX10 none) (hd : 1 ≤ ex_d E) {post : gx_S → Prop} (hQ : ex_Q E = va_Qv post (gx_B (ex_Z E)) (gx_A (ex_Z E))) {u : gx_S} {v0 : Nat} {v1 : Int32} {v2 : Int32} {v3 : Int32} {v4 : Int32} {v5 : Int32} {v6 : Int32} {v7 : Int32} {v8 : Int32} (h : ((v5 ≤ v8 → post u) ∧ (¬ v5 ≤ v8 → ((v8 < v3 → (gx_isO v0 9 ∧ (gx_isR (gx_r u v0 4) .byte ∧ vp_in v8 (gx_len (gx_r u v0 4)) ∧ ((¬ (gx_a u (gx_r u v0 4) v8.toNatClampNeg) = (10 : Int32) → (vp_in v8 (gx_len (gx_r u v0 4)) ∧ (S_X10_isWhite u (gx_a u (gx_r u v0 4) v8.toNatClampNeg) (fun (r6 : Int32) (u5 : gx_S) => ((r6 = 0 → ((v7 = 0 → (gx_isR (gx_r u5 v0 4) .byte ∧ vp_in v8 (gx_len (gx_r u5 v0 4)) ∧ (gx_isO (gx_r u5 v0 15) 8 ∧ S_X9_add u5 (gx_r u5 v0 15) (gx_a u5 (gx_r u5 v0 4) v8.toNatClampNeg) (fun (u10 : gx_S) => J_X10_fieldPlain_220 E v0 v1 v2 v3 v4 v5 (1 : Int32) (0 : Int32) v8 u10)))) ∧ (¬ v7 = 0 → ((v6 = 0 → (gx_isR (gx_r u5 v0 4) .byte ∧ vp_in v8 (gx_len (gx_r u5 v0 4)) ∧ (gx_isO (gx_r u5 v0 15) 8 ∧ S_X9_add u5 (gx_r u5 v0 15) (gx_a u5 (gx_r u5 v0 4) v8.toNatClampNeg) (fun (u14 : gx_S) => J_X10_fieldPlain_220 E v0 v1 v2 v3 v4 v5 (1 : Int32) (0 : Int32) v8 u14)))) ∧ (¬ v6 = 0 → (gx_isO (gx_r u5 v0 15) 8 ∧ S_X9_add u5 (gx_r u5 v0 15) (32 : Int32) (fun (u16 : gx_S) => (gx_isR (gx_r u16 v0 4) .byte ∧ vp_in v8 (gx_len (gx_r u16 v0 4)) ∧ (gx_isO (gx_r u16 v0 15) 8 ∧ S_X9_add u16 (gx_r u16 v0 15) (gx_a u16 (gx_r u16 v0 4) v8.toNatClampNeg) (fun (u20 : gx_S) => J_X10_fieldPlain_220 E v0 v1 v2 v3 v4 v5 (1 : Int32) (0 : Int32) v8 u20)))))))))) ∧ (¬ r6 = 0 → J_X10_fieldPlain_220 E v0 v1 v2 v3 v4 v5 v6 (1 : Int32) v8 u5)))))) ∧ ((gx_a u (gx_r u v0 4) v8.toNatClampNeg) = (10 : Int32) → J_X10_fieldPlain_220 E v0 v1 v2 v3 v4 v5 v6 v7 v8 u))))) ∧ (¬ v8 < v3 → ((v8 < v4 → J_X10_fieldPlain_220 E v0 v1 v2 v3 v4 v5 v6 v7 v8 u) ∧ (¬ v8 < v4 → (gx_isO v0 9 ∧ (gx_isR (gx_r u v0 4) .byte ∧ vp_in v8 (gx_len (gx_r u v0 4)) ∧ ((¬ (gx_a u (gx_r u v0 4) v8.toNatClampNeg) = (10 : Int32) → (vp_in v8 (gx_len (gx_r u v0 4)) ∧ (S_X10_isWhite u (gx_a u (gx_r u v0 4) v8.toNatClampNeg) (fun (r30 : Int32) (u29 : gx_S) => ((r30 = 0 → ((v7 = 0 → (gx_isR (gx_r u29 v0 4) .byte ∧ vp_in v8 (gx_len (gx_r u29 v0 4)) ∧ (gx_isO (gx_r u29 v0 15) 8 ∧ S_X9_add u29 (gx_r u29 v0 15) (gx_a u29 (gx_r u29 v0 4) v8.toNatClampNeg) (fun (u34 : gx_S) => J_X10_fieldPlain_220 E v0 v1 v2 v3 v4 v5 (1 : Int32) (0 : Int32) v8 u34)))) ∧ (¬ v7 = 0 → ((v6 = 0 → (gx_isR (gx_r u29 v0 4) .byte ∧ vp_in v8 (gx_len (gx_r u29 v0 4)) ∧ (gx_isO (gx_r u29 v0 15) 8 ∧ S_X9_add u29 (gx_r u29 v0 15) (gx_a u29 (gx_r u29 v0 4) v8.toNatClampNeg) (fun (u38 : gx_S) => J_X10_fieldPlain_220 E v0 v1 v2 v3 v4 v5 (1 : Int32) (0 : Int32) v8 u38)))) ∧ (¬ v6 = 0 → (gx_isO (gx_r u29 v0 15) 8 ∧ S_X9_add u29 (gx_r u29 v0 15) (32 : Int32) (fun (u40 : gx_S) => (gx_isR (gx_r u40 v0 4) .byte ∧ vp_in v8 (gx_len (gx_r u40 v0 4)) ∧ (gx_isO (gx_r u40 v0 15) 8 ∧ S_X9_add u40 (gx_r u40 v0 15) (gx_a u40 (gx_r u40 v0 4) v8.toNatClampNeg) (fun (u44 : gx_S) => J_X10_fieldPlain_220 E v0 v1 v2 v3 v4 v5 (1 : Int32) (0 : Int32) v8 u44)))))))))) ∧ (¬ r30 = 0 → J_X10_fieldPlain_220 E v0 v1 v2 v3 v4 v5 v6 (1 : Int32) v8 u29)))))) ∧ ((gx_a u (gx_r u v0 4) v8.toNatClampNeg) = (10 : Int32) → J_X10_fieldPlain_220 E v0 v1 v2 v3 v4 v5 v6 v7 v8 u))))))))))) : gx_Wc E 9 127 [(0, .ref (ex_ad E v0)), (1, .int v1), (2, .int v2), (3, .int v3), (4, .int v4), (5, .int v5), (6, .int v6), (7, .int v7), (8, .int v8)] [] u := by
  refine gx_iload X (j := 8) dX10_fieldPlain_127 rfl ?_
  refine gx_iload X (j := 5) dX10_fieldPlain_129 rfl ?_
  refine gx_icmp_ge X (tgt := 226) dX10_fieldPlain_131 (by decide) (fun c51 => ?_) (fun c51 => ?_)
  · replace h := h.1 c51
    exact gx_vret X hQ h dX10_fieldPlain_226
  · replace h := h.2 c51
    refine gx_iload X (j := 8) dX10_fieldPlain_134 rfl ?_
    refine gx_iload_n X (j := 3) dX10_fieldPlain_136 rfl rfl ?_
    refine gx_icmp_lt X (tgt := 147) dX10_fieldPlain_137 (by decide) (fun c50 => ?_) (fun c50 => ?_)
    · replace h := h.1 c50
      refine gx_aload_n X (j := 0) dX10_fieldPlain_147 rfl rfl ?_
      obtain ⟨k1, h⟩ := h
      refine gx_get X k1 rfl iwX10 4 (by decide) mw_525 (v := .ref (ex_ad E (gx_r u v0 4))) rfl dX10_fieldPlain_148 ?_
      refine gx_iload X (j := 8) dX10_fieldPlain_151 rfl ?_
      obtain ⟨k2, h⟩ := h
      obtain ⟨k3, h⟩ := h
      refine gx_bald X k2 k3 dX10_fieldPlain_153 ?_
      refine gx_bipush X (v := 10) dX10_fieldPlain_154 (by decide) ?_
      refine gx_icmp_ne X (tgt := 162) dX10_fieldPlain_156 (by decide) (fun c24 => ?_) (fun c24 => ?_)
      · replace h := h.1 c24
        refine gx_aload_n X (j := 0) dX10_fieldPlain_162 rfl rfl ?_
        refine gx_get X k1 rfl iwX10 4 (by decide) mw_525 (v := .ref (ex_ad E (gx_r u v0 4))) rfl dX10_fieldPlain_163 ?_
        refine gx_iload X (j := 8) dX10_fieldPlain_166 rfl ?_
        obtain ⟨k4, h⟩ := h
        refine gx_bald X k2 k4 dX10_fieldPlain_168 ?_
        refine gx_ki (gx_rS X (c_X10_isWhite h) (Nat.le_trans (by decide) hd) (Nat.le_trans (by decide) (Nat.mul_le_mul_left 40 hd)) mw_635 mw_636 mw_7 mw_637 hyX10_isWhite (As := [.int (gx_a u (gx_r u v0 4) v8.toNatClampNeg)]) (rest := []) rfl rfl (Nat.le_of_ble_eq_true rfl) dX10_fieldPlain_169) (fun r6 u5 h => ?_)
        refine gx_if_eq X (tgt := 181) dX10_fieldPlain_172 (by decide) (fun c23 => ?_) (fun c23 => ?_)
        · replace h := h.1 c23
          refine gx_iload X (j := 7) dX10_fieldPlain_181 rfl ?_
          refine gx_if_eq X (tgt := 200) dX10_fieldPlain_183 (by decide) (fun c22 => ?_) (fun c22 => ?_)
          · replace h := h.1 c22
            refine gx_iconst X (v := 0) dX10_fieldPlain_200 (by decide) ?_
            refine gx_istore X (lv' := [(7, .int (0 : Int32)), (0, .ref (ex_ad E v0)), (1, .int v1), (2, .int v2), (3, .int v3), (4, .int v4), (5, .int v5), (6, .int v6), (8, .int v8)]) dX10_fieldPlain_201 (by decide) rfl ?_
            refine gx_iconst X (v := 1) dX10_fieldPlain_203 (by decide) ?_
            refine gx_istore X (lv' := [(6, .int (1 : Int32)), (7, .int (0 : Int32)), (0, .ref (ex_ad E v0)), (1, .int v1), (2, .int v2), (3, .int v3), (4, .int v4), (5, .int v5), (8, .int v8)]) dX10_fieldPlain_204 (by decide) rfl ?_
            refine gx_aload_n X (j := 2) dX10_fieldPlain_206 rfl rfl ?_
            refine gx_get X k1 rfl iwX10 15 (by decide) mw_536 (v := .ref (ex_ad E (gx_r u5 v0 15))) rfl dX10_fieldPlain_207 ?_
            refine gx_aload_n X (j := 2) dX10_fieldPlain_210 rfl rfl ?_
            refine gx_get X k1 rfl iwX10 4 (by decide) mw_525 (v := .ref (ex_ad E (gx_r u5 v0 4))) rfl dX10_fieldPlain_211 ?_
            refine gx_iload X (j := 8) dX10_fieldPlain_214 rfl ?_
            obtain ⟨k7, h⟩ := h
            obtain ⟨k8, h⟩ := h
            refine gx_bald X k7 k8 dX10_fieldPlain_216 ?_
            obtain ⟨k9, h⟩ := h
            refine gx_kv (gx_rV X (c_X9_add h) (Nat.le_trans (by decide) hd) (Nat.le_trans (by decide) (Nat.mul_le_mul_left 40 hd)) k9 rfl mw_657 mw_658 mw_659 mw_8 mw_660 hyX9_add (As := [.int (gx_a u5 (gx_r u5 v0 4) v8.toNatClampNeg)]) (rest := []) rfl rfl (Nat.le_of_ble_eq_true rfl) dX10_fieldPlain_217) (fun u10 h => ?_)
            exact gx_sub [2, 3, 4, 5, 6, 7, 0, 1, 8] rfl h
          · replace h := h.2 c22
            refine gx_iload X (j := 6) dX10_fieldPlain_186 rfl ?_
            refine gx_if_eq X (tgt := 200) dX10_fieldPlain_188 (by decide) (fun c21 => ?_) (fun c21 => ?_)
            · replace h := h.1 c21
              refine gx_iconst X (v := 0) dX10_fieldPlain_200 (by decide) ?_
              refine gx_istore X (lv' := [(7, .int (0 : Int32)), (0, .ref (ex_ad E v0)), (1, .int v1), (2, .int v2), (3, .int v3), (4, .int v4), (5, .int v5), (6, .int v6), (8, .int v8)]) dX10_fieldPlain_201 (by decide) rfl ?_
              refine gx_iconst X (v := 1) dX10_fieldPlain_203 (by decide) ?_
              refine gx_istore X (lv' := [(6, .int (1 : Int32)), (7, .int (0 : Int32)), (0, .ref (ex_ad E v0)), (1, .int v1), (2, .int v2), (3, .int v3), (4, .int v4), (5, .int v5), (8, .int v8)]) dX10_fieldPlain_204 (by decide) rfl ?_
              refine gx_aload_n X (j := 2) dX10_fieldPlain_206 rfl rfl ?_
              refine gx_get X k1 rfl iwX10 15 (by decide) mw_536 (v := .ref (ex_ad E (gx_r u5 v0 15))) rfl dX10_fieldPlain_207 ?_
              refine gx_aload_n X (j := 2) dX10_fieldPlain_210 rfl rfl ?_
              refine gx_get X k1 rfl iwX10 4 (by decide) mw_525 (v := .ref (ex_ad E (gx_r u5 v0 4))) rfl dX10_fieldPlain_211 ?_
              refine gx_iload X (j := 8) dX10_fieldPlain_214 rfl ?_
              obtain ⟨k11, h⟩ := h
              obtain ⟨k12, h⟩ := h
              refine gx_bald X k11 k12 dX10_fieldPlain_216 ?_
              obtain ⟨k13, h⟩ := h
              refine gx_kv (gx_rV X (c_X9_add h) (Nat.le_trans (by decide) hd) (Nat.le_trans (by decide) (Nat.mul_le_mul_left 40 hd)) k13 rfl mw_657 mw_658 mw_659 mw_8 mw_660 hyX9_add (As := [.int (gx_a u5 (gx_r u5 v0 4) v8.toNatClampNeg)]) (rest := []) rfl rfl (Nat.le_of_ble_eq_true rfl) dX10_fieldPlain_217) (fun u14 h => ?_)
              exact gx_sub [2, 3, 4, 5, 6, 7, 0, 1, 8] rfl h
            · replace h := h.2 c21
              refine gx_aload_n X (j := 0) dX10_fieldPlain_191 rfl rfl ?_
              refine gx_get X k1 rfl iwX10 15 (by decide) mw_536 (v := .ref (ex_ad E (gx_r u5 v0 15))) rfl dX10_fieldPlain_192 ?_
              refine gx_bipush X (v := 32) dX10_fieldPlain_195 (by decide) ?_
              obtain ⟨k15, h⟩ := h
              refine gx_kv (gx_rV X (c_X9_add h) (Nat.le_trans (by decide) hd) (Nat.le_trans (by decide) (Nat.mul_le_mul_left 40 hd)) k15 rfl mw_657 mw_658 mw_659 mw_8 mw_660 hyX9_add (As := [.int (32 : Int32)]) (rest := []) rfl rfl (Nat.le_of_ble_eq_true rfl) dX10_fieldPlain_197) (fun u16 h => ?_)
              refine gx_iconst X (v := 0) dX10_fieldPlain_200 (by decide) ?_
              refine gx_istore X (lv' := [(7, .int (0 : Int32)), (0, .ref (ex_ad E v0)), (1, .int v1), (2, .int v2), (3, .int v3), (4, .int v4), (5, .int v5), (6, .int v6), (8, .int v8)]) dX10_fieldPlain_201 (by decide) rfl ?_
              refine gx_iconst X (v := 1) dX10_fieldPlain_203 (by decide) ?_
              refine gx_istore X (lv' := [(6, .int (1 : Int32)), (7, .int (0 : Int32)), (0, .ref (ex_ad E v0)), (1, .int v1), (2, .int v2), (3, .int v3), (4, .int v4), (5, .int v5), (8, .int v8)]) dX10_fieldPlain_204 (by decide) rfl ?_
              refine gx_aload_n X (j := 2) dX10_fieldPlain_206 rfl rfl ?_
              refine gx_get X k1 rfl iwX10 15 (by decide) mw_536 (v := .ref (ex_ad E (gx_r u16 v0 15))) rfl dX10_fieldPlain_207 ?_
              refine gx_aload_n X (j := 2) dX10_fieldPlain_210 rfl rfl ?_
              refine gx_get X k1 rfl iwX10 4 (by decide) mw_525 (v := .ref (ex_ad E (gx_r u16 v0 4))) rfl dX10_fieldPlain_211 ?_
              refine gx_iload X (j := 8) dX10_fieldPlain_214 rfl ?_
              obtain ⟨k17, h⟩ := h
              obtain ⟨k18, h⟩ := h
              refine gx_bald X k17 k18 dX10_fieldPlain_216 ?_
              obtain ⟨k19, h⟩ := h
              refine gx_kv (gx_rV X (c_X9_add h) (Nat.le_trans (by decide) hd) (Nat.le_trans (by decide) (Nat.mul_le_mul_left 40 hd)) k19 rfl mw_657 mw_658 mw_659 mw_8 mw_660 hyX9_add (As := [.int (gx_a u16 (gx_r u16 v0 4) v8.toNatClampNeg)]) (rest := []) rfl rfl (Nat.le_of_ble_eq_true rfl) dX10_fieldPlain_217) (fun u20 h => ?_)
              exact gx_sub [2, 3, 4, 5, 6, 7, 0, 1, 8] rfl h
        · replace h := h.2 c23
          refine gx_iconst X (v := 1) dX10_fieldPlain_175 (by decide) ?_
          refine gx_istore X (lv' := [(7, .int (1 : Int32)), (0, .ref (ex_ad E v0)), (1, .int v1), (2, .int v2), (3, .int v3), (4, .int v4), (5, .int v5), (6, .int v6), (8, .int v8)]) dX10_fieldPlain_176 (by decide) rfl ?_
          refine gx_goto X (tgt := 220) dX10_fieldPlain_178 (by decide) ?_
          exact gx_sub [1, 2, 3, 4, 5, 6, 7, 0, 8] rfl h
      · replace h := h.2 c24
        refine gx_goto X (tgt := 220) dX10_fieldPlain_159 (by decide) ?_
        exact gx_sub [0, 1, 2, 3, 4, 5, 6, 7, 8] rfl h
    · replace h := h.2 c50
      refine gx_iload X (j := 8) dX10_fieldPlain_140 rfl ?_
      refine gx_iload X (j := 4) dX10_fieldPlain_142 rfl ?_
      refine gx_icmp_lt X (tgt := 220) dX10_fieldPlain_144 (by decide) (fun c49 => ?_) (fun c49 => ?_)
      · replace h := h.1 c49
        exact gx_sub [0, 1, 2, 3, 4, 5, 6, 7, 8] rfl h
      · replace h := h.2 c49
        refine gx_aload_n X (j := 0) dX10_fieldPlain_147 rfl rfl ?_
        obtain ⟨k25, h⟩ := h
        refine gx_get X k25 rfl iwX10 4 (by decide) mw_525 (v := .ref (ex_ad E (gx_r u v0 4))) rfl dX10_fieldPlain_148 ?_
        refine gx_iload X (j := 8) dX10_fieldPlain_151 rfl ?_
        obtain ⟨k26, h⟩ := h
        obtain ⟨k27, h⟩ := h
        refine gx_bald X k26 k27 dX10_fieldPlain_153 ?_
        refine gx_bipush X (v := 10) dX10_fieldPlain_154 (by decide) ?_
        refine gx_icmp_ne X (tgt := 162) dX10_fieldPlain_156 (by decide) (fun c48 => ?_) (fun c48 => ?_)
        · replace h := h.1 c48
          refine gx_aload_n X (j := 0) dX10_fieldPlain_162 rfl rfl ?_
          refine gx_get X k25 rfl iwX10 4 (by decide) mw_525 (v := .ref (ex_ad E (gx_r u v0 4))) rfl dX10_fieldPlain_163 ?_
          refine gx_iload X (j := 8) dX10_fieldPlain_166 rfl ?_
          obtain ⟨k28, h⟩ := h
          refine gx_bald X k26 k28 dX10_fieldPlain_168 ?_
          refine gx_ki (gx_rS X (c_X10_isWhite h) (Nat.le_trans (by decide) hd) (Nat.le_trans (by decide) (Nat.mul_le_mul_left 40 hd)) mw_635 mw_636 mw_7 mw_637 hyX10_isWhite (As := [.int (gx_a u (gx_r u v0 4) v8.toNatClampNeg)]) (rest := []) rfl rfl (Nat.le_of_ble_eq_true rfl) dX10_fieldPlain_169) (fun r30 u29 h => ?_)
          refine gx_if_eq X (tgt := 181) dX10_fieldPlain_172 (by decide) (fun c47 => ?_) (fun c47 => ?_)
          · replace h := h.1 c47
            refine gx_iload X (j := 7) dX10_fieldPlain_181 rfl ?_
            refine gx_if_eq X (tgt := 200) dX10_fieldPlain_183 (by decide) (fun c46 => ?_) (fun c46 => ?_)
            · replace h := h.1 c46
              refine gx_iconst X (v := 0) dX10_fieldPlain_200 (by decide) ?_
              refine gx_istore X (lv' := [(7, .int (0 : Int32)), (0, .ref (ex_ad E v0)), (1, .int v1), (2, .int v2), (3, .int v3), (4, .int v4), (5, .int v5), (6, .int v6), (8, .int v8)]) dX10_fieldPlain_201 (by decide) rfl ?_
              refine gx_iconst X (v := 1) dX10_fieldPlain_203 (by decide) ?_
              refine gx_istore X (lv' := [(6, .int (1 : Int32)), (7, .int (0 : Int32)), (0, .ref (ex_ad E v0)), (1, .int v1), (2, .int v2), (3, .int v3), (4, .int v4), (5, .int v5), (8, .int v8)]) dX10_fieldPlain_204 (by decide) rfl ?_
              refine gx_aload_n X (j := 2) dX10_fieldPlain_206 rfl rfl ?_
              refine gx_get X k25 rfl iwX10 15 (by decide) mw_536 (v := .ref (ex_ad E (gx_r u29 v0 15))) rfl dX10_fieldPlain_207 ?_
              refine gx_aload_n X (j := 2) dX10_fieldPlain_210 rfl rfl ?_
              refine gx_get X k25 rfl iwX10 4 (by decide) mw_525 (v := .ref (ex_ad E (gx_r u29 v0 4))) rfl dX10_fieldPlain_211 ?_
              refine gx_iload X (j := 8) dX10_fieldPlain_214 rfl ?_
              obtain ⟨k31, h⟩ := h
              obtain ⟨k32, h⟩ := h
              refine gx_bald X k31 k32 dX10_fieldPlain_216 ?_
              obtain ⟨k33, h⟩ := h
              refine gx_kv (gx_rV X (c_X9_add h) (Nat.le_trans (by decide) hd) (Nat.le_trans (by decide) (Nat.mul_le_mul_left 40 hd)) k33 rfl mw_657 mw_658 mw_659 mw_8 mw_660 hyX9_add (As := [.int (gx_a u29 (gx_r u29 v0 4) v8.toNatClampNeg)]) (rest := []) rfl rfl (Nat.le_of_ble_eq_true rfl) dX10_fieldPlain_217) (fun u34 h => ?_)
              exact gx_sub [2, 3, 4, 5, 6, 7, 0, 1, 8] rfl h
            · replace h := h.2 c46
              refine gx_iload X (j := 6) dX10_fieldPlain_186 rfl ?_
              refine gx_if_eq X (tgt := 200) dX10_fieldPlain_188 (by decide) (fun c45 => ?_) (fun c45 => ?_)
              · replace h := h.1 c45
                refine gx_iconst X (v := 0) dX10_fieldPlain_200 (by decide) ?_
                refine gx_istore X (lv' := [(7, .int (0 : Int32)), (0, .ref (ex_ad E v0)), (1, .int v1), (2, .int v2), (3, .int v3), (4, .int v4), (5, .int v5), (6, .int v6), (8, .int v8)]) dX10_fieldPlain_201 (by decide) rfl ?_
                refine gx_iconst X (v := 1) dX10_fieldPlain_203 (by decide) ?_
                refine gx_istore X (lv' := [(6, .int (1 : Int32)), (7, .int (0 : Int32)), (0, .ref (ex_ad E v0)), (1, .int v1), (2, .int v2), (3, .int v3), (4, .int v4), (5, .int v5), (8, .int v8)]) dX10_fieldPlain_204 (by decide) rfl ?_
                refine gx_aload_n X (j := 2) dX10_fieldPlain_206 rfl rfl ?_
                refine gx_get X k25 rfl iwX10 15 (by decide) mw_536 (v := .ref (ex_ad E (gx_r u29 v0 15))) rfl dX10_fieldPlain_207 ?_
                refine gx_aload_n X (j := 2) dX10_fieldPlain_210 rfl rfl ?_
                refine gx_get X k25 rfl iwX10 4 (by decide) mw_525 (v := .ref (ex_ad E (gx_r u29 v0 4))) rfl dX10_fieldPlain_211 ?_
                refine gx_iload X (j := 8) dX10_fieldPlain_214 rfl ?_
                obtain ⟨k35, h⟩ := h
                obtain ⟨k36, h⟩ := h
                refine gx_bald X k35 k36 dX10_fieldPlain_216 ?_
                obtain ⟨k37, h⟩ := h
                refine gx_kv (gx_rV X (c_X9_add h) (Nat.le_trans (by decide) hd) (Nat.le_trans (by decide) (Nat.mul_le_mul_left 40 hd)) k37 rfl mw_657 mw_658 mw_659 mw_8 mw_660 hyX9_add (As := [.int (gx_a u29 (gx_r u29 v0 4) v8.toNatClampNeg)]) (rest := []) rfl rfl (Nat.le_of_ble_eq_true rfl) dX10_fieldPlain_217) (fun u38 h => ?_)
                exact gx_sub [2, 3, 4, 5, 6, 7, 0, 1, 8] rfl h
              · replace h := h.2 c45
                refine gx_aload_n X (j := 0) dX10_fieldPlain_191 rfl rfl ?_
                refine gx_get X k25 rfl iwX10 15 (by decide) mw_536 (v := .ref (ex_ad E (gx_r u29 v0 15))) rfl dX10_fieldPlain_192 ?_
                refine gx_bipush X (v := 32) dX10_fieldPlain_195 (by decide) ?_
                obtain ⟨k39, h⟩ := h
                refine gx_kv (gx_rV X (c_X9_add h) (Nat.le_trans (by decide) hd) (Nat.le_trans (by decide) (Nat.mul_le_mul_left 40 hd)) k39 rfl mw_657 mw_658 mw_659 mw_8 mw_660 hyX9_add (As := [.int (32 : Int32)]) (rest := []) rfl rfl (Nat.le_of_ble_eq_true rfl) dX10_fieldPlain_197) (fun u40 h => ?_)
                refine gx_iconst X (v := 0) dX10_fieldPlain_200 (by decide) ?_
                refine gx_istore X (lv' := [(7, .int (0 : Int32)), (0, .ref (ex_ad E v0)), (1, .int v1), (2, .int v2), (3, .int v3), (4, .int v4), (5, .int v5), (6, .int v6), (8, .int v8)]) dX10_fieldPlain_201 (by decide) rfl ?_
                refine gx_iconst X (v := 1) dX10_fieldPlain_203 (by decide) ?_
                refine gx_istore X (lv' := [(6, .int (1 : Int32)), (7, .int (0 : Int32)), (0, .ref (ex_ad E v0)), (1, .int v1), (2, .int v2), (3, .int v3), (4, .int v4), (5, .int v5), (8, .int v8)]) dX10_fieldPlain_204 (by decide) rfl ?_
                refine gx_aload_n X (j := 2) dX10_fieldPlain_206 rfl rfl ?_
                refine gx_get X k25 rfl iwX10 15 (by decide) mw_536 (v := .ref (ex_ad E (gx_r u40 v0 15))) rfl dX10_fieldPlain_207 ?_
                refine gx_aload_n X (j := 2) dX10_fieldPlain_210 rfl rfl ?_
                refine gx_get X k25 rfl iwX10 4 (by decide) mw_525 (v := .ref (ex_ad E (gx_r u40 v0 4))) rfl dX10_fieldPlain_211 ?_
                refine gx_iload X (j := 8) dX10_fieldPlain_214 rfl ?_
                obtain ⟨k41, h⟩ := h
                obtain ⟨k42, h⟩ := h
                refine gx_bald X k41 k42 dX10_fieldPlain_216 ?_
                obtain ⟨k43, h⟩ := h
                refine gx_kv (gx_rV X (c_X9_add h) (Nat.le_trans (by decide) hd) (Nat.le_trans (by decide) (Nat.mul_le_mul_left 40 hd)) k43 rfl mw_657 mw_658 mw_659 mw_8 mw_660 hyX9_add (As := [.int (gx_a u40 (gx_r u40 v0 4) v8.toNatClampNeg)]) (rest := []) rfl rfl (Nat.le_of_ble_eq_true rfl) dX10_fieldPlain_217) (fun u44 h => ?_)
                exact gx_sub [2, 3, 4, 5, 6, 7, 0, 1, 8] rfl h
          · replace h := h.2 c47
            refine gx_iconst X (v := 1) dX10_fieldPlain_175 (by decide) ?_
            refine gx_istore X (lv' := [(7, .int (1 : Int32)), (0, .ref (ex_ad E v0)), (1, .int v1), (2, .int v2), (3, .int v3), (4, .int v4), (5, .int v5), (6, .int v6), (8, .int v8)]) dX10_fieldPlain_176 (by decide) rfl ?_
            refine gx_goto X (tgt := 220) dX10_fieldPlain_178 (by decide) ?_
            exact gx_sub [1, 2, 3, 4, 5, 6, 7, 0, 8] rfl h
        · replace h := h.2 c48
          refine gx_goto X (tgt := 220) dX10_fieldPlain_159 (by decide) ?_
          exact gx_sub [0, 1, 2, 3, 4, 5, 6, 7, 8] rfl h
set_option maxHeartbeats 4000000 in
set_option maxRecDepth 100000 in
theorem w_X10_fieldPlain_220 {E : gx_E} (X : gx_X E cX10_fieldPlain 9 RX10 none) (hd : 1 ≤ ex_d E) {post : gx_S → Prop} (hQ : ex_Q E = va_Qv post (gx_B (ex_Z E)) (gx_A (ex_Z E))) {u : gx_S} {v0 : Nat} {v1 : Int32} {v2 : Int32} {v3 : Int32} {v4 : Int32} {v5 : Int32} {v6 : Int32} {v7 : Int32} {v8 : Int32} (h : (∀ x1 : Int32, x1 = v8 + 1 → J_X10_fieldPlain_127 E v0 v1 v2 v3 v4 v5 v6 v7 x1 u)) : gx_Wc E 9 220 [(0, .ref (ex_ad E v0)), (1, .int v1), (2, .int v2), (3, .int v3), (4, .int v4), (5, .int v5), (6, .int v6), (7, .int v7), (8, .int v8)] [] u := by
  obtain ⟨x1, ex1⟩ : ∃ y : Int32, y = v8 + 1 := ⟨_, rfl⟩
  replace h := h x1 ex1
  refine gx_iinc X (v := x1) (lv' := [(8, .int x1), (0, .ref (ex_ad E v0)), (1, .int v1), (2, .int v2), (3, .int v3), (4, .int v4), (5, .int v5), (6, .int v6), (7, .int v7)]) dX10_fieldPlain_220 (j := 8) rfl (by rw [ex1]; rfl) (by decide) rfl ?_
  refine gx_goto X (tgt := 127) dX10_fieldPlain_223 (by decide) ?_
  exact gx_sub [1, 2, 3, 4, 5, 6, 7, 8, 0] rfl h
-- fields
theorem fstF_ge {M : List Nat} : ∀ k i, k = M.length - i → i ≤ M.length → i ≤ fstF M k i
  | 0, i, h, hi => by unfold fstF; omega
  | k + 1, i, h, hi => by
    unfold fstF
    split
    · omega
    · have := fstF_ge (M := M) k (i + 1) (by omega) (by omega)
      omega
theorem fstF_run {M : List Nat} : ∀ d k i, d ≤ k → (∀ j, i ≤ j → j < i + d → ch M j ≠ 10) → fstF M k i = fstF M (k - d) (i + d)
  | 0, k, i, _, _ => rfl
  | d + 1, k, i, h1, h2 => by
    obtain ⟨k', rfl⟩ : ∃ k', k = k' + 1 := ⟨k - 1, by omega⟩
    conv => lhs; unfold fstF
    rw [if_neg (fun z => h2 i (Nat.le_refl _) (by omega) z.1), fstF_run d k' (i + 1) (by omega) (fun j x y => h2 j (by omega) (by omega)), show i + 1 + d = i + (d + 1) by omega, show k' + 1 - (d + 1) = k' - d by omega]
theorem runF_all {p : Nat → Bool} {L : List Nat} : ∀ n i j, i ≤ j → j < i + runF p L n i → p (ch L j) = true
  | 0, i, j, h1, h2 => by unfold runF at h2; omega
  | n + 1, i, j, h1, h2 => by
    unfold runF at h2
    split at h2
    · rename_i q
      by_cases e : j = i
      · rw [e]; exact q
      · exact runF_all n (i + 1) j (by omega) (by omega)
    · omega
theorem nl_ok {M : List Nat} {p : Nat} (h : nameLen M p ≠ 0) : ch M (p + nameLen M p) = 58 ∧ (∀ j, p ≤ j → j < p + nameLen M p → isN (ch M j) = true) ∧ p + nameLen M p < M.length := by
  unfold nameLen at h ⊢
  split at h
  · rename_i q
    rw [if_pos q]
    refine ⟨q, fun j x y => runF_all 20 p j x y, ?_⟩
    by_cases z : p + runF isN M 20 p < M.length
    · exact z
    · rw [ch_ge (by omega)] at q; omega
  · exact absurd rfl h
theorem nl_fst {M : List Nat} {p : Nat} (h : nameLen M p ≠ 0) : p + nameLen M p + 1 ≤ fst_ M p := by
  obtain ⟨h1, h2, h3⟩ := nl_ok h
  unfold fst_
  rw [fstF_run (nameLen M p + 1) _ p (by omega) (fun j x y => ?_), show p + (nameLen M p + 1) = p + nameLen M p + 1 by omega]
  · exact fstF_ge _ _ (by omega) (by omega)
  · by_cases e : j = p + nameLen M p
    · rw [e, h1]; decide
    · exact (isN_58 (h2 j x (by omega))).2.1
theorem cnt_pl {M : List Nat} (h : cnt M ≠ 0) : ∀ j, j ≤ cnt M → cnt M = cntF M (21 - j) j (plc M j) ∧ (j < cnt M → nameLen M (plc M j) ≠ 0)
  | 0, _ => by
    refine ⟨rfl, fun _ => ?_⟩
    intro z
    have : cnt M = 0 := by
      unfold cnt cntF
      split
      · rfl
      · exact if_pos z
    exact h this
  | j + 1, hj => by
    have h20 := cnt_le M
    obtain ⟨h1, h2⟩ := cnt_pl h j (by omega)
    have e : cnt M = cntF M (21 - (j + 1)) (j + 1) (plc M (j + 1)) := by
      refine cnt_nx (by omega) h1 ?_ (h2 (by omega)) (by omega)
      cases hf : fend M (plc M j) with
      | false => rfl
      | true =>
        have := cnt_end (by omega) h1 hf
        omega
    refine ⟨e, fun hj2 z => ?_⟩
    rw [show 21 - (j + 1) = (20 - (j + 1)) + 1 by omega] at e
    unfold cntF at e
    split at e
    · omega
    · first | exact h e | (rw [if_pos z] at e; exact h e)
theorem pl_ok {M : List Nat} {j : Nat} (h : j < cnt M) : nameLen M (plc M j) ≠ 0 ∧ plc M j + nameLen M (plc M j) + 1 ≤ plc M (j + 1) ∧ plc M (j + 1) ≤ M.length ∧ ch M (plc M j + nameLen M (plc M j)) = 58 := by
  have h1 := (cnt_pl (by omega) j (by omega)).2 h
  exact ⟨h1, nl_fst h1, plc_le M _, (nl_ok h1).1⟩
/-- where a field's value ends -/
def vEn (M : List Nat) (s : Nat) : Nat := if ch M (s - 1) = 10 then s - 1 else s
theorem vEn_ok {M : List Nat} {j : Nat} (h : j < cnt M) : plc M j + nameLen M (plc M j) + 1 ≤ vEn M (plc M (j + 1)) ∧ vEn M (plc M (j + 1)) ≤ M.length := by
  obtain ⟨h1, h2, h3, h4⟩ := pl_ok h
  unfold vEn
  split
  · rename_i q
    refine ⟨?_, by omega⟩
    by_cases e : plc M (j + 1) = plc M j + nameLen M (plc M j) + 1
    · rw [e, Nat.add_sub_cancel, h4] at q; omega
    · omega
  · exact ⟨h2, h3⟩
theorem rvF_10 {M : List Nat} : ∀ n i w V, ch M (i + n) = 10 → rvF M (n + 1) i w V = rvF M n i w V
  | 0, i, w, V, h => by
    unfold rvF
    rw [Nat.add_zero] at h
    rw [h, if_neg (by decide), if_pos rfl]
    rfl
  | n + 1, i, w, V, h => by
    have h2 : ch M (i + 1 + n) = 10 := by rw [← h]; congr 1; omega
    conv => lhs; unfold rvF
    conv => rhs; unfold rvF
    rw [rvF_10 n (i + 1) true V h2, rvF_10 n (i + 1) w V h2, rvF_10 n (i + 1) false _ h2]
theorem rvF_vEn {M : List Nat} {s c : Nat} (h : c ≤ vEn M s) : rvF M (s - c) c false [] = rvF M (vEn M s - c) c false [] := by
  unfold vEn at h ⊢
  split
  · rename_i q
    rw [if_pos q] at h
    by_cases e : s = 0
    · subst e; rfl
    · rw [show s - c = (s - 1 - c) + 1 by omega]
      refine rvF_10 _ _ _ _ ?_
      rw [show c + (s - 1 - c) = s - 1 by omega]; exact q
  · rfl
theorem rvF_len {M : List Nat} : ∀ n i w V, (rvF M n i w V).length ≤ V.length + (if w = true then 1 else 0) + n
  | 0, i, w, V => by unfold rvF; omega
  | n + 1, i, w, V => by
    unfold rvF
    split
    · have := rvF_len (M := M) n (i + 1) true V
      rw [if_pos rfl] at this
      omega
    · split
      · have := rvF_len (M := M) n (i + 1) w V
        omega
      · have := rvF_len (M := M) n (i + 1) false (V ++ (if (w && decide (0 < V.length)) = true then [32] else []) ++ [ch M i])
        refine Nat.le_trans this ?_
        simp only [List.length_append, List.length_cons, List.length_nil]
        cases w <;> cases hv : decide (0 < V.length) <;> simp <;> omega
theorem rfO_len {M : List Nat} {j : Nat} (h : j < cnt M) (hl : M.length ≤ 2000) : (rfO M (plc M j) (plc M (j + 1))).length ≤ 2000 := by
  obtain ⟨h1, h2, h3, h4⟩ := pl_ok h
  unfold rfO
  have := rvF_len (M := M) (plc M (j + 1) - (plc M j + nameLen M (plc M j) + 1)) (plc M j + nameLen M (plc M j) + 1) false []
  simp only [List.length_append, nmO_len, List.length_cons, List.length_nil] at this ⊢
  simp at this
  omega
theorem sfO_len {M : List Nat} {p s : Nat} (hl : M.length ≤ 2000) : (sfO M p s).length ≤ 2000 := by
  unfold sfO
  rw [List.length_take, List.length_drop]
  omega
theorem bdF_len {M : List Nat} {rel : Bool} : ∀ n i nl w O, (bdF M rel n i nl w O).length ≤ O.length + nl + (if w = true then 1 else 0) + n
  | 0, i, nl, w, O => by unfold bdF; omega
  | n + 1, i, nl, w, O => by
    unfold bdF
    split
    · have := bdF_len (M := M) (rel := rel) n (i + 1) (nl + 1) false O
      simp at this
      omega
    · split
      · have := bdF_len (M := M) (rel := rel) n (i + 1) nl true O
        rw [if_pos rfl] at this
        omega
      · have := bdF_len (M := M) (rel := rel) n (i + 1) 0 false (O ++ List.replicate nl 10 ++ (if w = true then [32] else []) ++ [ch M i])
        refine Nat.le_trans this ?_
        simp only [List.length_append, List.length_cons, List.length_nil, List.length_replicate]
        cases w <;> simp <;> omega
theorem bodyO_len {M : List Nat} {rel : Bool} {p : Nat} (hl : M.length ≤ 2000) : (bodyO M rel (p + 1)).length ≤ 2000 := by
  unfold bodyO bodyE
  have := bdF_len (M := M) (rel := rel) (M.length - (p + 1)) (p + 1) 0 false []
  simp at this
  split
  · omega
  · rw [len_push]
    by_cases e : p + 1 ≤ M.length
    · omega
    · omega
-- valueEnd
theorem i_X10_valueEnd {u : gx_S} {t j k : Nat} {M : List Nat} {post : Int32 → gx_S → Prop} (hf : mfix t u) (hm : mm u M k) (hk : k ≠ 0) (hc : k = cnt M) (hj : j < k) (h : post (nI (vEn M (plc M (j + 1)))) u) : S_X10_valueEnd u 21 (nI j) post := by
  rcases hm with hm | ⟨_, m1, m2, m3, m4, m5, m6, m7, m8⟩
  · exact absurd hm.1 hk
  obtain ⟨h1, h2, h3, h4⟩ := pl_ok (M := M) (j := j) (by omega)
  have hch := ch_lt m4.1 (j := plc M (j + 1) - 1) (by omega)
  unfold S_X10_valueEnd
  rw [show gx_r u 21 7 = 33 from hf 21 7 (by decide) (by decide), show gx_r u 21 4 = 30 from hf 21 4 (by decide) (by decide), nI_clamp (show j < 2 ^ 31 by omega), (m8 j hj).2.2, nsub (a := plc M (j + 1)) (b := 1) (by omega) (B := 1) rfl, nI_clamp (by omega), m4.2 _ (by omega), show (10 : Int32) = nI 10 from rfl, sb_eq hch (by omega)]
  unfold vEn at h
  refine ⟨isO21, isA33.r, in21 rfl (by omega), isA30.r, in30 (by omega), fun q => ⟨in21 rfl (by omega), ?_⟩, fun q => ⟨in21 rfl (by omega), ?_⟩⟩
  · rwa [if_neg q] at h
  · rwa [if_pos q] at h
theorem st_push {M : List Nat} {p i : Nat} (hp : p ≤ i) (hi : i < M.length) : (M.drop p).take (i - p) ++ [ch M i] = (M.drop p).take (i + 1 - p) := by
  have e : ch M i = M[i] := by unfold ch; rw [List.getD_eq_getElem?_getD, List.getElem?_eq_getElem hi]; rfl
  rw [show i + 1 - p = (i - p) + 1 by omega, List.take_add_one, List.getElem?_drop, show p + (i - p) = i by omega, List.getElem?_eq_getElem hi, e]
  rfl
def S_X10_fieldPlain (u : gx_S) (v0 : Nat) (v1 v2 v3 v4 : Int32) (post : gx_S → Prop) : Prop := v0 = 21 ∧ v3 = 0 ∧ v4 = 0 ∧ ∃ (t k j : Nat) (M : List Nat) (rel : Bool), mfix t u ∧ mm u M k ∧ k ≠ 0 ∧ k = cnt M ∧ j < k ∧ v1 = nI j ∧ v2 = b2 rel ∧ txt u 22 37 [] ∧ ∀ v, exG [37] [(22, 1)] u v → txt v 22 37 (if rel then rfO M (plc M j) (plc M (j + 1)) else sfO M (plc M j) (plc M (j + 1))) → post v
theorem lp19 {E : gx_E} (X : gx_X E cX10_fieldPlain 9 RX10 none) (hd : 1 ≤ ex_d E) {post : gx_S → Prop} (hQ : ex_Q E = va_Qv post (gx_B (ex_Z E)) (gx_A (ex_Z E))) {t p e : Nat} {v1 v2 : Int32} {M : List Nat} {u0 : gx_S} (hf0 : mfix t u0) (hM : rdb M (gx_a u0 30)) (hMl : M.length ≤ 2000) (he : e ≤ M.length) (hp : p ≤ e) (h : ∀ v, exG [37] [(22, 1)] u0 v → txt v 22 37 ((M.drop p).take (e - p)) → post v) :
    ∀ (n i : Nat) (u : gx_S), e - i = n → p ≤ i → i ≤ e → exG [37] [(22, 1)] u0 u → txt u 22 37 ((M.drop p).take (i - p)) → J_X10_fieldPlain_19 E 21 v1 v2 0 0 (nI e) (nI i) u := by
  intro n
  induction n with
  | zero =>
    intro i u hn h1 h2 hx hL
    refine w_X10_fieldPlain_19 X hd hQ ⟨fun _ => h u hx ?_, fun q => absurd (nI_le (by omega) (by omega)) q⟩
    rwa [show i = e by omega] at hL
  | succ n ih =>
    intro i u hn h1 h2 hx hL
    have hf := exG_mfix hx hf0
    have hc := ch_lt hM.1 (j := i) (by omega)
    refine w_X10_fieldPlain_19 X hd hQ ⟨fun q => absurd q (nI_ge (by omega) (by omega)), fun _ => ⟨fun q => absurd q (nI_pos (by omega)), fun _ => ⟨fun q => absurd q (nI_pos (by omega)), fun _ => ⟨isO21, ?_⟩⟩⟩⟩
    rw [show gx_r u 21 4 = 30 from hf 21 4 (by decide) (by decide), show gx_r u 21 15 = 22 from hf 21 15 (by decide) (by decide), nI_clamp (by omega), hx.2.2 30 (by decide), hM.2 i (by omega)]
    refine ⟨isA30.r, in30 (by omega), isO22, a22 hf ?_ hL hc (byte_sb hc) (fun v xv mv => ?_)⟩
    · rw [List.length_take, List.length_drop]; omega
    · rintro x rfl
      rw [nI_1]
      rw [st_push h1 (by omega)] at mv
      exact ih (i + 1) v (by omega) (by omega) (by omega) (exG_tr hx xv) mv
theorem lp127 {E : gx_E} (X : gx_X E cX10_fieldPlain 9 RX10 none) (hd : 1 ≤ ex_d E) {post : gx_S → Prop} (hQ : ex_Q E = va_Qv post (gx_B (ex_Z E)) (gx_A (ex_Z E))) {t c e : Nat} {v1 v2 : Int32} {M A R : List Nat} {u0 : gx_S} (hf0 : mfix t u0) (hM : rdb M (gx_a u0 30)) (hMl : M.length ≤ 2000) (he : e ≤ M.length) (hA : A.length ≤ 1000) (h : ∀ v, exG [37] [(22, 1)] u0 v → txt v 22 37 (A ++ R) → post v) :
    ∀ (n i : Nat) (w : Bool) (V : List Nat) (u : gx_S), e - i = n → c ≤ i → i ≤ e → exG [37] [(22, 1)] u0 u → V.length + (if w = true then 1 else 0) ≤ i → txt u 22 37 (A ++ V) → rvF M n i w V = R → J_X10_fieldPlain_127 E 21 v1 v2 0 0 (nI e) (b2 (decide (0 < V.length))) (b2 w) (nI i) u := by
  intro n
  induction n with
  | zero =>
    intro i w V u hn h1 h2 hx hl hL hr
    refine w_X10_fieldPlain_127 X hd hQ ⟨fun _ => h u hx ?_, fun q => absurd (nI_le (by omega) (by omega)) q⟩
    rw [← hr]
    exact hL
  | succ n ih =>
    intro i w V u hn h1 h2 hx hl hL hr
    have hf := exG_mfix hx hf0
    have hc := ch_lt hM.1 (j := i) (by omega)
    have r4 : gx_r u 21 4 = 30 := hf 21 4 (by decide) (by decide)
    have r15 : gx_r u 21 15 = 22 := hf 21 15 (by decide) (by decide)
    have cc : gx_a u 30 i = sb_b (ch M i) := by rw [hx.2.2 30 (by decide), hM.2 i (by omega)]
    unfold rvF at hr
    have go : ∀ (w' : Bool) (V' : List Nat) (v : gx_S) (s : Int32), exG [37] [(22, 1)] u v → V'.length + (if w' = true then 1 else 0) ≤ i + 1 → txt v 22 37 (A ++ V') → rvF M n (i + 1) w' V' = R → s = b2 (decide (0 < V'.length)) → J_X10_fieldPlain_220 E 21 v1 v2 0 0 (nI e) s (b2 w') (nI i) v := fun w' V' v s xv g1 g2 g3 g4 => by
      refine w_X10_fieldPlain_220 X hd hQ ?_
      rintro x rfl
      rw [nI_1, g4]
      exact ih (i + 1) w' V' v (by omega) (by omega) (by omega) (exG_tr hx xv) g1 g2 g3
    refine w_X10_fieldPlain_127 X hd hQ ⟨fun q => absurd q (nI_ge (by omega) (by omega)), fun _ => ⟨fun q => absurd q (nI_pos (by omega)), fun _ => ⟨fun q => absurd q (nI_pos (by omega)), fun _ => ⟨isO21, ?_⟩⟩⟩⟩
    rw [r4, nI_clamp (by omega), cc, show (10 : Int32) = nI 10 from rfl, sb_eq hc (by omega)]
    refine ⟨isA30.r, in30 (by omega), fun q => ⟨in30 (by omega), i_X10_isWhite hc ⟨fun q2 => ?_, fun q2 => ?_⟩⟩, fun q => ?_⟩
    · rw [b2_0] at q2
      rw [q2, if_neg (by decide), if_neg q] at hr
      rw [r4, r15, cc]
      have put : (w && decide (0 < V.length)) = false → S_X9_add u 22 (sb_b (ch M i)) (fun u10 => J_X10_fieldPlain_220 E 21 v1 v2 0 0 (nI e) 1 0 (nI i) u10) := fun z => by
        refine a22 hf ?_ hL hc (byte_sb hc) (fun v xv mv => ?_)
        · rw [List.length_append]; omega
        · rw [z] at hr
          refine go false (V ++ [ch M i]) v 1 xv ?_ (by rw [← List.append_assoc]; exact mv) (by simpa using hr) ?_
          · rw [len_push]; simp; omega
          · rw [len_push, decide_eq_true (by omega)]; rfl
      refine ⟨fun q3 => ⟨isA30.r, in30 (by omega), isO22, put ?_⟩, fun q3 => ⟨fun q4 => ⟨isA30.r, in30 (by omega), isO22, put ?_⟩, fun q4 => ⟨isO22, ?_⟩⟩⟩
      · rw [b2_0] at q3; rw [q3]; rfl
      · rw [b2_0] at q4; rw [q4]; simp
      · have q3 := b2_n0 q3
        have q4 := b2_n0 q4
        subst q3
        rw [q4] at hr
        refine a22 hf (by rw [List.length_append]; omega) hL (c := 32) (by omega) (by decide) (fun v xv mv => ?_)
        have hfv := exG_mfix xv hf
        rw [show gx_r v 21 4 = 30 from hfv 21 4 (by decide) (by decide), show gx_r v 21 15 = 22 from hfv 21 15 (by decide) (by decide), xv.2.2 30 (by decide), cc]
        refine ⟨isA30.r, in30 (by omega), isO22, a22 hfv ?_ mv hc (byte_sb hc) (fun v' xv' mv' => ?_)⟩
        · simp only [List.length_append, List.length_cons, List.length_nil]; omega
        · refine go false (V ++ [32] ++ [ch M i]) v' 1 (exG_tr xv xv') ?_ (by simpa using mv') (by simpa using hr) ?_
          · simp only [List.length_append, List.length_cons, List.length_nil]
            rw [if_pos rfl] at hl
            simp; omega
          · rw [len_push, decide_eq_true (by omega)]; rfl
    · have q2 := b2_n0 q2
      rw [q2, if_pos rfl] at hr
      refine go true V u _ (exG_rf _ _ _) ?_ hL hr rfl
      rw [if_pos rfl]
      split at hl <;> omega
    · rw [q, if_neg (by decide), if_pos rfl] at hr
      exact go w V u _ (exG_rf _ _ _) (by omega) hL hr rfl
theorem lp68 {E : gx_E} (X : gx_X E cX10_fieldPlain 9 RX10 none) (hd : 1 ≤ ex_d E) {post : gx_S → Prop} (hQ : ex_Q E = va_Qv post (gx_B (ex_Z E)) (gx_A (ex_Z E))) {t p e l j : Nat} {v2 : Int32} {M : List Nat} {u0 : gx_S} (hf0 : mfix t u0) (hM : rdb M (gx_a u0 30)) (hMl : M.length ≤ 2000) (hl20 : l ≤ 20) (he : e ≤ M.length) (hp : p + l + 1 ≤ e) (hj : j < 21) (hcl : gx_a u0 32 j = nI (p + l)) (h : ∀ v, exG [37] [(22, 1)] u0 v → txt v 22 37 (nmO M p l ++ [58] ++ rvF M (e - (p + l + 1)) (p + l + 1) false []) → post v) :
    ∀ (n i : Nat) (u : gx_S), l - i = n → i ≤ l → exG [37] [(22, 1)] u0 u → txt u 22 37 (nmO M p i) → J_X10_fieldPlain_68 E 21 (nI j) v2 0 0 (nI e) (nI (p + i)) u := by
  intro n
  induction n with
  | zero =>
    intro i u hn h1 hx hL
    have ei : i = l := by omega
    subst ei
    have hf := exG_mfix hx hf0
    refine w_X10_fieldPlain_68 X hd hQ ⟨isO21, ?_⟩
    rw [show gx_r u 21 6 = 32 from hf 21 6 (by decide) (by decide), show gx_r u 21 15 = 22 from hf 21 15 (by decide) (by decide), nI_clamp (by omega), hx.2.2 32 (by decide), hcl]
    refine ⟨isA32.r, in21 rfl hj, fun _ => ⟨isO22, a22 hf (by rw [nmO_len]; omega) hL (c := 58) (by omega) (by decide) (fun v xv mv => ?_)⟩, fun q => absurd (nI_le (by omega) (by omega)) q⟩
    have hfv := exG_mfix xv hf
    rw [show gx_r v 21 6 = 32 from hfv 21 6 (by decide) (by decide), xv.2.2 32 (by decide), hx.2.2 32 (by decide), hcl]
    refine ⟨isA32.r, in21 rfl hj, ?_⟩
    rintro x rfl
    rw [nI_1]
    refine lp127 X hd hQ hf0 hM hMl he (A := nmO M p i ++ [58]) (by rw [len_push, nmO_len]; omega) h _ (p + i + 1) false [] v rfl (Nat.le_refl _) hp (exG_tr hx xv) (by simp) (by simpa using mv) rfl
  | succ n ih =>
    intro i u hn h1 hx hL
    have hf := exG_mfix hx hf0
    have hc := ch_lt hM.1 (j := p + i) (by omega)
    refine w_X10_fieldPlain_68 X hd hQ ⟨isO21, ?_⟩
    rw [show gx_r u 21 6 = 32 from hf 21 6 (by decide) (by decide), show gx_r u 21 15 = 22 from hf 21 15 (by decide) (by decide), show gx_r u 21 4 = 30 from hf 21 4 (by decide) (by decide), nI_clamp (show j < 2 ^ 31 by omega), nI_clamp (show p + i < 2 ^ 31 by omega), hx.2.2 32 (by decide), hcl, hx.2.2 30 (by decide), hM.2 (p + i) (by omega)]
    refine ⟨isA32.r, in21 rfl hj, fun q => absurd q (nI_ge (by omega) (by omega)), fun _ => ⟨isA30.r, in30 (by omega), i_X10_small hc ⟨isO22, a22 hf (by rw [nmO_len]; omega) hL (sml_lt hc) (byte_sb (sml_lt hc)) (fun v xv mv => ?_)⟩⟩⟩
    rintro x rfl
    rw [nI_1]
    exact ih (i + 1) v (by omega) (by omega) (exG_tr hx xv) mv
theorem w_X10_fieldPlain {E : gx_E} (X : gx_X E cX10_fieldPlain 9 RX10 none) (hd : 1 ≤ ex_d E) {post : gx_S → Prop} (hQ : ex_Q E = va_Qv post (gx_B (ex_Z E)) (gx_A (ex_Z E))) {u : gx_S} {v0 : Nat} {v1 v2 v3 v4 : Int32} (h : S_X10_fieldPlain u v0 v1 v2 v3 v4 post) : gx_Wc E 9 0 [(0, .ref (ex_ad E v0)), (1, .int v1), (2, .int v2), (3, .int v3), (4, .int v4)] [] u := by
  obtain ⟨rfl, rfl, rfl, t, k, j, M, rel, hf, hm, hk, hc, hj, rfl, rfl, hL, h⟩ := h
  have hm' := hm
  rcases hm' with hm' | ⟨_, m1, m2, m3, m4, m5, m6, m7, m8⟩
  · exact absurd hm'.1 hk
  obtain ⟨g1, g2, g3, g4⟩ := pl_ok (M := M) (j := j) (by omega)
  obtain ⟨y1, y2⟩ := vEn_ok (M := M) (j := j) (by omega)
  refine w_X10_fieldPlain_0 X hd hQ ⟨isO21, i_X10_valueEnd hf hm hk hc hj ?_⟩
  rw [show gx_r u 21 5 = 31 from hf 21 5 (by decide) (by decide), nI_clamp (show j < 2 ^ 31 by omega), (m8 j hj).1]
  refine ⟨fun q => ⟨isA31.r, in21 rfl (by omega), ?_⟩, fun q => ⟨isA31.r, in21 rfl (by omega), ?_⟩⟩
  · have q := b2_n0 q
    subst q
    rintro x rfl
    rw [if_pos rfl] at h
    unfold rfO at h
    rw [rvF_vEn y1] at h
    exact lp68 X hd hQ (p := plc M j) (l := nameLen M (plc M j)) hf m4 m5 (nameLen_le _ _) y2 y1 (by omega) (m8 j hj).2.1 h _ 0 u rfl (by omega) (exG_rf _ _ _) hL
  · rw [b2_0] at q
    subst q
    rintro x rfl
    rw [if_neg (by decide)] at h
    exact lp19 X hd hQ hf m4 m5 y2 (by omega) h _ (plc M j) u rfl (Nat.le_refl _) (by omega) (exG_rf _ _ _) (by rw [Nat.sub_self]; exact hL)
theorem c_X10_fieldPlain {l : Launch} {Z : gx_Z} {u : gx_S} {v0 : Nat} {v1 : Int32} {v2 : Int32} {v3 : Int32} {v4 : Int32} {post : gx_S → Prop} (h : S_X10_fieldPlain u v0 v1 v2 v3 v4 post) : Met l yX10_fieldPlain (Cond.code yX10_fieldPlain cX10_fieldPlain 9 none :: gx_TB) (gx_rm 1) (gx_Pre Z u [.ref (Z.2.1 v0), .int v1, .int v2, .int v3, .int v4]) (va_Qv post (gx_B Z) (gx_A Z)) 0 0 (gx_A Z) := by
  refine gx_met (by decide +kernel) (Nat.le_of_ble_eq_true rfl) ?_
  intro E X hZ hQ hD hL
  subst hZ
  exact w_X10_fieldPlain X (Nat.le_of_eq hD.symm) hQ h

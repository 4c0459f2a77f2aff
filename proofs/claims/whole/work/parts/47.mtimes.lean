-- PlainSealModel.times([I)V
theorem dX10_times_0 : decode cX10_times 0 = .ok (.aload_n 0, 1) := by decide +kernel
theorem dX10_times_1 : decode cX10_times 1 = .ok (.getfield 80, 3) := by decide +kernel
theorem dX10_times_4 : decode cX10_times 4 = .ok (.iconst 0, 1) := by decide +kernel
theorem dX10_times_5 : decode cX10_times 5 = .ok (.invokestatic 214, 3) := by decide +kernel
theorem dX10_times_8 : decode cX10_times 8 = .ok (.iconst 0, 1) := by decide +kernel
theorem dX10_times_9 : decode cX10_times 9 = .ok (.istore_n 2, 1) := by decide +kernel
theorem dX10_times_10 : decode cX10_times 10 = .ok (.iload_n 2, 1) := by decide +kernel
theorem dX10_times_11 : decode cX10_times 11 = .ok (.bipush 32, 2) := by decide +kernel
theorem dX10_times_13 : decode cX10_times 13 = .ok (.if_icmp .ge 88, 3) := by decide +kernel
theorem dX10_times_16 : decode cX10_times 16 = .ok (.lconst 0, 1) := by decide +kernel
theorem dX10_times_17 : decode cX10_times 17 = .ok (.lstore_n 3, 1) := by decide +kernel
theorem dX10_times_18 : decode cX10_times 18 = .ok (.iconst 0, 1) := by decide +kernel
theorem dX10_times_19 : decode cX10_times 19 = .ok (.istore 5, 2) := by decide +kernel
theorem dX10_times_21 : decode cX10_times 21 = .ok (.iload 5, 2) := by decide +kernel
theorem dX10_times_23 : decode cX10_times 23 = .ok (.bipush 33, 2) := by decide +kernel
theorem dX10_times_25 : decode cX10_times 25 = .ok (.if_icmp .ge 56, 3) := by decide +kernel
theorem dX10_times_28 : decode cX10_times 28 = .ok (.lload_n 3, 1) := by decide +kernel
theorem dX10_times_29 : decode cX10_times 29 = .ok (.aload_n 0, 1) := by decide +kernel
theorem dX10_times_30 : decode cX10_times 30 = .ok (.getfield 80, 3) := by decide +kernel
theorem dX10_times_33 : decode cX10_times 33 = .ok (.iload_n 2, 1) := by decide +kernel
theorem dX10_times_34 : decode cX10_times 34 = .ok (.iload 5, 2) := by decide +kernel
theorem dX10_times_36 : decode cX10_times 36 = .ok (.iadd, 1) := by decide +kernel
theorem dX10_times_37 : decode cX10_times 37 = .ok (.iaload, 1) := by decide +kernel
theorem dX10_times_38 : decode cX10_times 38 = .ok (.i2l, 1) := by decide +kernel
theorem dX10_times_39 : decode cX10_times 39 = .ok (.aload_n 0, 1) := by decide +kernel
theorem dX10_times_40 : decode cX10_times 40 = .ok (.getfield 74, 3) := by decide +kernel
theorem dX10_times_43 : decode cX10_times 43 = .ok (.iload_n 2, 1) := by decide +kernel
theorem dX10_times_44 : decode cX10_times 44 = .ok (.iaload, 1) := by decide +kernel
theorem dX10_times_45 : decode cX10_times 45 = .ok (.i2l, 1) := by decide +kernel
theorem dX10_times_46 : decode cX10_times 46 = .ok (.aload_n 1, 1) := by decide +kernel
theorem dX10_times_47 : decode cX10_times 47 = .ok (.iload 5, 2) := by decide +kernel
theorem dX10_times_49 : decode cX10_times 49 = .ok (.iaload, 1) := by decide +kernel
theorem dX10_times_50 : decode cX10_times 50 = .ok (.i2l, 1) := by decide +kernel
theorem dX10_times_51 : decode cX10_times 51 = .ok (.lmul, 1) := by decide +kernel
theorem dX10_times_52 : decode cX10_times 52 = .ok (.ladd, 1) := by decide +kernel
theorem dX10_times_53 : decode cX10_times 53 = .ok (.ladd, 1) := by decide +kernel
theorem dX10_times_54 : decode cX10_times 54 = .ok (.lstore_n 3, 1) := by decide +kernel
theorem dX10_times_55 : decode cX10_times 55 = .ok (.aload_n 0, 1) := by decide +kernel
theorem dX10_times_56 : decode cX10_times 56 = .ok (.getfield 80, 3) := by decide +kernel
theorem dX10_times_59 : decode cX10_times 59 = .ok (.iload_n 2, 1) := by decide +kernel
theorem dX10_times_60 : decode cX10_times 60 = .ok (.iload 5, 2) := by decide +kernel
theorem dX10_times_62 : decode cX10_times 62 = .ok (.iadd, 1) := by decide +kernel
theorem dX10_times_63 : decode cX10_times 63 = .ok (.lload_n 3, 1) := by decide +kernel
theorem dX10_times_64 : decode cX10_times 64 = .ok (.ldc2_w 225, 3) := by decide +kernel
theorem dX10_times_67 : decode cX10_times 67 = .ok (.land, 1) := by decide +kernel
theorem dX10_times_68 : decode cX10_times 68 = .ok (.l2i, 1) := by decide +kernel
theorem dX10_times_69 : decode cX10_times 69 = .ok (.iastore, 1) := by decide +kernel
theorem dX10_times_70 : decode cX10_times 70 = .ok (.lload_n 3, 1) := by decide +kernel
theorem dX10_times_71 : decode cX10_times 71 = .ok (.bipush 16, 2) := by decide +kernel
theorem dX10_times_73 : decode cX10_times 73 = .ok (.lshr, 1) := by decide +kernel
theorem dX10_times_74 : decode cX10_times 74 = .ok (.lstore_n 3, 1) := by decide +kernel
theorem dX10_times_75 : decode cX10_times 75 = .ok (.iinc 5 1, 3) := by decide +kernel
theorem dX10_times_78 : decode cX10_times 78 = .ok (.goto (-57), 3) := by decide +kernel
theorem dX10_times_81 : decode cX10_times 81 = .ok (.aload_n 0, 1) := by decide +kernel
theorem dX10_times_82 : decode cX10_times 82 = .ok (.getfield 80, 3) := by decide +kernel
theorem dX10_times_85 : decode cX10_times 85 = .ok (.iload_n 2, 1) := by decide +kernel
theorem dX10_times_86 : decode cX10_times 86 = .ok (.bipush 33, 2) := by decide +kernel
theorem dX10_times_88 : decode cX10_times 88 = .ok (.iadd, 1) := by decide +kernel
theorem dX10_times_89 : decode cX10_times 89 = .ok (.dup2, 1) := by decide +kernel
theorem dX10_times_90 : decode cX10_times 90 = .ok (.iaload, 1) := by decide +kernel
theorem dX10_times_91 : decode cX10_times 91 = .ok (.lload_n 3, 1) := by decide +kernel
theorem dX10_times_92 : decode cX10_times 92 = .ok (.l2i, 1) := by decide +kernel
theorem dX10_times_93 : decode cX10_times 93 = .ok (.iadd, 1) := by decide +kernel
theorem dX10_times_94 : decode cX10_times 94 = .ok (.iastore, 1) := by decide +kernel
theorem dX10_times_95 : decode cX10_times 95 = .ok (.iinc 2 1, 3) := by decide +kernel
theorem dX10_times_98 : decode cX10_times 98 = .ok (.goto (-88), 3) := by decide +kernel
theorem dX10_times_101 : decode cX10_times 101 = .ok (.aload_n 0, 1) := by decide +kernel
theorem dX10_times_102 : decode cX10_times 102 = .ok (.aload_n 0, 1) := by decide +kernel
theorem dX10_times_103 : decode cX10_times 103 = .ok (.getfield 80, 3) := by decide +kernel
theorem dX10_times_106 : decode cX10_times 106 = .ok (.bipush 64, 2) := by decide +kernel
theorem dX10_times_108 : decode cX10_times 108 = .ok (.aload_n 0, 1) := by decide +kernel
theorem dX10_times_109 : decode cX10_times 109 = .ok (.getfield 74, 3) := by decide +kernel
theorem dX10_times_112 : decode cX10_times 112 = .ok (.invokevirtual 227, 3) := by decide +kernel
theorem dX10_times_115 : decode cX10_times 115 = .ok (.return_, 1) := by decide +kernel
theorem hyX10_times : yX10_times.cls ≠ "java/lang/invoke/MethodHandle" ∧ yX10_times.cls ≠ "java/lang/invoke/VarHandle" ∧ (parseMethodDescriptor yX10_times.desc).map (fun d => d.parameters.length) = some 1 := by decide +kernel
abbrev J_X10_times_10 (E : gx_E) (v0 : Nat) (v1 : Nat) (v2 : Int32) (u : gx_S) : Prop := gx_Wc E 6 10 [(0, .ref (ex_ad E v0)), (1, .ref (ex_ad E v1)), (2, .int v2)] [] u
abbrev J_X10_times_21 (E : gx_E) (v0 : Nat) (v1 : Nat) (v2 : Int32) (v3 : Int64) (v5 : Int32) (u : gx_S) : Prop := gx_Wc E 6 21 [(0, .ref (ex_ad E v0)), (1, .ref (ex_ad E v1)), (2, .int v2), (3, .long v3), (5, .int v5)] [] u
set_option maxHeartbeats 4000000 in
set_option maxRecDepth 100000 in
theorem w_X10_times_0 {E : gx_E} (X : gx_X E cX10_times 6 RX10 none) (hd : 2 ≤ ex_d E) {post : gx_S → Prop} (hQ : ex_Q E = va_Qv post (gx_B (ex_Z E)) (gx_A (ex_Z E))) {u : gx_S} {v0 : Nat} {v1 : Nat} (h : (gx_isO v0 9 ∧ (S_J7_fill_53178 u (gx_r u v0 23) (0 : Int32) (fun (u2 : gx_S) => J_X10_times_10 E v0 v1 (0 : Int32) u2)))) : gx_Wc E 6 0 [(0, .ref (ex_ad E v0)), (1, .ref (ex_ad E v1))] [] u := by
  refine gx_aload_n X (j := 0) dX10_times_0 rfl rfl ?_
  obtain ⟨k1, h⟩ := h
  refine gx_get X k1 rfl iwX10 23 (by decide) mw_544 (v := .ref (ex_ad E (gx_r u v0 23))) rfl dX10_times_1 ?_
  refine gx_iconst X (v := 0) dX10_times_4 (by decide) ?_
  refine gx_kv (gx_rS X (c_J7_fill_53178 h) (Nat.le_trans (by decide) hd) (Nat.le_trans (by decide) (Nat.mul_le_mul_left 40 hd)) mw_758 mw_759 mw_15 mw_760 hyJ7_fill_53178 (As := [.ref (ex_ad E (gx_r u v0 23)), .int (0 : Int32)]) (rest := []) rfl rfl (Nat.le_of_ble_eq_true rfl) dX10_times_5) (fun u2 h => ?_)
  refine gx_iconst X (v := 0) dX10_times_8 (by decide) ?_
  refine gx_istore_n X (lv' := [(2, .int (0 : Int32)), (0, .ref (ex_ad E v0)), (1, .ref (ex_ad E v1))]) dX10_times_9 rfl (by decide) rfl ?_
  exact gx_sub [1, 2, 0] rfl h
set_option maxHeartbeats 4000000 in
set_option maxRecDepth 100000 in
theorem w_X10_times_10 {E : gx_E} (X : gx_X E cX10_times 6 RX10 none) (hd : 2 ≤ ex_d E) {post : gx_S → Prop} (hQ : ex_Q E = va_Qv post (gx_B (ex_Z E)) (gx_A (ex_Z E))) {u : gx_S} {v0 : Nat} {v1 : Nat} {v2 : Int32} (h : (((32 : Int32) ≤ v2 → (gx_isO v0 9 ∧ (S_X10_remainder u v0 (gx_r u v0 23) (64 : Int32) (gx_r u v0 21) (fun (u2 : gx_S) => post u2)))) ∧ (¬ (32 : Int32) ≤ v2 → J_X10_times_21 E v0 v1 v2 (0 : Int64) (0 : Int32) u))) : gx_Wc E 6 10 [(0, .ref (ex_ad E v0)), (1, .ref (ex_ad E v1)), (2, .int v2)] [] u := by
  refine gx_iload_n X (j := 2) dX10_times_10 rfl rfl ?_
  refine gx_bipush X (v := 32) dX10_times_11 (by decide) ?_
  refine gx_icmp_ge X (tgt := 101) dX10_times_13 (by decide) (fun c3 => ?_) (fun c3 => ?_)
  · replace h := h.1 c3
    refine gx_aload_n X (j := 0) dX10_times_101 rfl rfl ?_
    refine gx_aload_n X (j := 0) dX10_times_102 rfl rfl ?_
    obtain ⟨k1, h⟩ := h
    refine gx_get X k1 rfl iwX10 23 (by decide) mw_544 (v := .ref (ex_ad E (gx_r u v0 23))) rfl dX10_times_103 ?_
    refine gx_bipush X (v := 64) dX10_times_106 (by decide) ?_
    refine gx_aload_n X (j := 0) dX10_times_108 rfl rfl ?_
    refine gx_get X k1 rfl iwX10 21 (by decide) mw_542 (v := .ref (ex_ad E (gx_r u v0 21))) rfl dX10_times_109 ?_
    refine gx_kv (gx_rV X (c_X10_remainder h) (Nat.le_trans (by decide) hd) (Nat.le_trans (by decide) (Nat.mul_le_mul_left 40 hd)) k1 rfl mw_761 mw_763 mp_20 mw_7 mw_764 hyX10_remainder (As := [.ref (ex_ad E (gx_r u v0 23)), .int (64 : Int32), .ref (ex_ad E (gx_r u v0 21))]) (rest := []) rfl rfl (Nat.le_of_ble_eq_true rfl) dX10_times_112) (fun u2 h => ?_)
    exact gx_vret X hQ h dX10_times_115
  · replace h := h.2 c3
    refine gx_lconst X (v := 0) dX10_times_16 (by decide) ?_
    refine gx_lstore_n X (lv' := [(3, .long (0 : Int64)), (0, .ref (ex_ad E v0)), (1, .ref (ex_ad E v1)), (2, .int v2)]) dX10_times_17 rfl (by decide) rfl ?_
    refine gx_iconst X (v := 0) dX10_times_18 (by decide) ?_
    refine gx_istore X (lv' := [(5, .int (0 : Int32)), (3, .long (0 : Int64)), (0, .ref (ex_ad E v0)), (1, .ref (ex_ad E v1)), (2, .int v2)]) dX10_times_19 (by decide) rfl ?_
    exact gx_sub [2, 3, 4, 1, 0] rfl h
set_option maxHeartbeats 4000000 in
set_option maxRecDepth 100000 in
theorem w_X10_times_21 {E : gx_E} (X : gx_X E cX10_times 6 RX10 none) (hd : 2 ≤ ex_d E) {post : gx_S → Prop} (hQ : ex_Q E = va_Qv post (gx_B (ex_Z E)) (gx_A (ex_Z E))) {u : gx_S} {v0 : Nat} {v1 : Nat} {v2 : Int32} {v3 : Int64} {v5 : Int32} (h : (((33 : Int32) ≤ v5 → (gx_isO v0 9 ∧ (gx_isR (gx_r u v0 23) .int ∧ vp_in (v2 + (33 : Int32)) (gx_len (gx_r u v0 23)) ∧ (gx_isA (gx_r u v0 23) .int ∧ vp_in (v2 + (33 : Int32)) (gx_len (gx_r u v0 23)) ∧ ∀ u6 : gx_S, u6 = gx_pa u (gx_r u v0 23) (upd (gx_a u (gx_r u v0 23)) (v2 + (33 : Int32)).toNatClampNeg ((gx_a u (gx_r u v0 23) (v2 + (33 : Int32)).toNatClampNeg) + (v3).toInt32)) → (∀ x7 : Int32, x7 = v2 + 1 → J_X10_times_10 E v0 v1 x7 u6))))) ∧ (¬ (33 : Int32) ≤ v5 → (gx_isO v0 9 ∧ (gx_isR (gx_r u v0 23) .int ∧ vp_in (v2 + v5) (gx_len (gx_r u v0 23)) ∧ (gx_isR (gx_r u v0 21) .int ∧ vp_in v2 (gx_len (gx_r u v0 21)) ∧ (gx_isR v1 .int ∧ vp_in v5 (gx_len v1) ∧ (∀ x15 : Int64, x15 = (v3 + (((gx_a u (gx_r u v0 23) (v2 + v5).toNatClampNeg)).toInt64 + (((gx_a u (gx_r u v0 21) v2.toNatClampNeg)).toInt64 * ((gx_a u v1 v5.toNatClampNeg)).toInt64))) → (gx_isA (gx_r u v0 23) .int ∧ vp_in (v2 + v5) (gx_len (gx_r u v0 23)) ∧ ∀ u18 : gx_S, u18 = gx_pa u (gx_r u v0 23) (upd (gx_a u (gx_r u v0 23)) (v2 + v5).toNatClampNeg ((x15 &&& (65535 : Int64))).toInt32) → (∀ x19 : Int64, x19 = (x15 >>> ((16 : Int32).toInt64 &&& 63)) → (∀ x20 : Int32, x20 = v5 + 1 → J_X10_times_21 E v0 v1 v2 x19 x20 u18))))))))))) : gx_Wc E 6 21 [(0, .ref (ex_ad E v0)), (1, .ref (ex_ad E v1)), (2, .int v2), (3, .long v3), (5, .int v5)] [] u := by
  refine gx_iload X (j := 4) dX10_times_21 rfl ?_
  refine gx_bipush X (v := 33) dX10_times_23 (by decide) ?_
  refine gx_icmp_ge X (tgt := 81) dX10_times_25 (by decide) (fun c21 => ?_) (fun c21 => ?_)
  · replace h := h.1 c21
    refine gx_aload_n X (j := 0) dX10_times_81 rfl rfl ?_
    obtain ⟨k1, h⟩ := h
    refine gx_get X k1 rfl iwX10 23 (by decide) mw_544 (v := .ref (ex_ad E (gx_r u v0 23))) rfl dX10_times_82 ?_
    refine gx_iload_n X (j := 2) dX10_times_85 rfl rfl ?_
    refine gx_bipush X (v := 33) dX10_times_86 (by decide) ?_
    refine gx_iadd X dX10_times_88 ?_
    refine gx_dup2_11 X dX10_times_89 rfl rfl ?_
    obtain ⟨k2, h⟩ := h
    obtain ⟨k3, h⟩ := h
    refine gx_iald X k2 k3 dX10_times_90 ?_
    refine gx_lload_n X (j := 3) dX10_times_91 rfl rfl ?_
    refine gx_l2i X (v := (v3).toInt32) dX10_times_92 rfl ?_
    refine gx_iadd X dX10_times_93 ?_
    obtain ⟨k4, h⟩ := h
    obtain ⟨k5, h⟩ := h
    refine gx_iast X k4 k5 dX10_times_94 ?_
    refine gx_nams (fun u6 eu6 => ?_)
    replace h := h u6 eu6
    obtain ⟨x7, ex7⟩ : ∃ y : Int32, y = v2 + 1 := ⟨_, rfl⟩
    replace h := h x7 ex7
    refine gx_iinc X (v := x7) (lv' := [(2, .int x7), (0, .ref (ex_ad E v0)), (1, .ref (ex_ad E v1)), (3, .long v3), (5, .int v5)]) dX10_times_95 (j := 2) rfl (by rw [ex7]; rfl) (by decide) rfl ?_
    refine gx_goto X (tgt := 10) dX10_times_98 (by decide) ?_
    exact gx_sub [1, 2, 0] rfl h
  · replace h := h.2 c21
    refine gx_lload_n X (j := 3) dX10_times_28 rfl rfl ?_
    refine gx_aload_n X (j := 0) dX10_times_29 rfl rfl ?_
    obtain ⟨k8, h⟩ := h
    refine gx_get X k8 rfl iwX10 23 (by decide) mw_544 (v := .ref (ex_ad E (gx_r u v0 23))) rfl dX10_times_30 ?_
    refine gx_iload_n X (j := 2) dX10_times_33 rfl rfl ?_
    refine gx_iload X (j := 4) dX10_times_34 rfl ?_
    refine gx_iadd X dX10_times_36 ?_
    obtain ⟨k9, h⟩ := h
    obtain ⟨k10, h⟩ := h
    refine gx_iald X k9 k10 dX10_times_37 ?_
    refine gx_i2l X (v := ((gx_a u (gx_r u v0 23) (v2 + v5).toNatClampNeg)).toInt64) dX10_times_38 rfl ?_
    refine gx_aload_n X (j := 0) dX10_times_39 rfl rfl ?_
    refine gx_get X k8 rfl iwX10 21 (by decide) mw_542 (v := .ref (ex_ad E (gx_r u v0 21))) rfl dX10_times_40 ?_
    refine gx_iload_n X (j := 2) dX10_times_43 rfl rfl ?_
    obtain ⟨k11, h⟩ := h
    obtain ⟨k12, h⟩ := h
    refine gx_iald X k11 k12 dX10_times_44 ?_
    refine gx_i2l X (v := ((gx_a u (gx_r u v0 21) v2.toNatClampNeg)).toInt64) dX10_times_45 rfl ?_
    refine gx_aload_n X (j := 1) dX10_times_46 rfl rfl ?_
    refine gx_iload X (j := 4) dX10_times_47 rfl ?_
    obtain ⟨k13, h⟩ := h
    obtain ⟨k14, h⟩ := h
    refine gx_iald X k13 k14 dX10_times_49 ?_
    refine gx_i2l X (v := ((gx_a u v1 v5.toNatClampNeg)).toInt64) dX10_times_50 rfl ?_
    refine gx_lmul X dX10_times_51 ?_
    refine gx_ladd X dX10_times_52 ?_
    refine gx_ladd X dX10_times_53 ?_
    refine gx_naml (fun x15 ex15 => ?_)
    replace h := h x15 ex15
    refine gx_lstore_n X (lv' := [(3, .long x15), (0, .ref (ex_ad E v0)), (1, .ref (ex_ad E v1)), (2, .int v2), (5, .int v5)]) dX10_times_54 rfl (by decide) rfl ?_
    refine gx_aload_n X (j := 1) dX10_times_55 rfl rfl ?_
    refine gx_get X k8 rfl iwX10 23 (by decide) mw_544 (v := .ref (ex_ad E (gx_r u v0 23))) rfl dX10_times_56 ?_
    refine gx_iload_n X (j := 3) dX10_times_59 rfl rfl ?_
    refine gx_iload X (j := 4) dX10_times_60 rfl ?_
    refine gx_iadd X dX10_times_62 ?_
    refine gx_lload_n X (j := 0) dX10_times_63 rfl rfl ?_
    refine gx_ldc2 X (v := 65535) mw_773 dX10_times_64 ?_
    refine gx_land X dX10_times_67 ?_
    refine gx_l2i X (v := ((x15 &&& (65535 : Int64))).toInt32) dX10_times_68 rfl ?_
    obtain ⟨k16, h⟩ := h
    obtain ⟨k17, h⟩ := h
    refine gx_iast X k16 k17 dX10_times_69 ?_
    refine gx_nams (fun u18 eu18 => ?_)
    replace h := h u18 eu18
    refine gx_lload_n X (j := 0) dX10_times_70 rfl rfl ?_
    refine gx_bipush X (v := 16) dX10_times_71 (by decide) ?_
    refine gx_lshr X (v := (x15 >>> ((16 : Int32).toInt64 &&& 63))) dX10_times_73 rfl ?_
    refine gx_naml (fun x19 ex19 => ?_)
    replace h := h x19 ex19
    refine gx_lstore_n X (lv' := [(3, .long x19), (0, .ref (ex_ad E v0)), (1, .ref (ex_ad E v1)), (2, .int v2), (5, .int v5)]) dX10_times_74 rfl (by decide) rfl ?_
    obtain ⟨x20, ex20⟩ : ∃ y : Int32, y = v5 + 1 := ⟨_, rfl⟩
    replace h := h x20 ex20
    refine gx_iinc X (v := x20) (lv' := [(5, .int x20), (3, .long x19), (0, .ref (ex_ad E v0)), (1, .ref (ex_ad E v1)), (2, .int v2)]) dX10_times_75 (j := 4) rfl (by rw [ex20]; rfl) (by decide) rfl ?_
    refine gx_goto X (tgt := 21) dX10_times_78 (by decide) ?_
    exact gx_sub [2, 3, 4, 1, 0] rfl h
theorem in33 {a i : Nat} (ha : gx_len a = 33) (h : i < 33) : vp_in (nI i) (gx_len a) := inL ha h (by omega)
theorem in55 {i : Nat} (h : i < 66) : vp_in (nI i) (gx_len 55) := vp_in_nI (N := 66) h (by omega)
def S_X10_times (u : gx_S) (v0 v1 : Nat) (post : gx_S → Prop) : Prop := v0 = 21 ∧ ∃ t N n : Nat, N = 33 ∧ n = 32 ∧ mfix t u ∧ gx_isR v1 .int ∧ gx_len v1 = 33 ∧ v1 ≠ 53 ∧ v1 ≠ 55 ∧ okD (gx_a u v1) N ∧ okD (gx_a u 53) N ∧ okD (gx_a u 52) N ∧ 0 < vA (gx_a u 52) N ∧ vA (gx_a u 52) N < 65536 ^ n ∧ vA (gx_a u v1) N < 65536 ^ n ∧ vA (gx_a u 53) N < 65536 ^ n ∧ ∀ v, exA [53, 55] u v → okD (gx_a v 53) N → vA (gx_a v 53) N = vA (gx_a u 53) N * vA (gx_a u v1) N % vA (gx_a u 52) N → post v
theorem top0 {a : Nat → Int32} {m : Nat} (h : vA a (m + 1) < 65536 ^ m) : vA a (m + 1) = vA a m := by
  rw [vA_s] at h ⊢
  have : dv (a m) = 0 := by
    by_cases z : dv (a m) = 0
    · exact z
    · have h2 : 1 * 65536 ^ m ≤ dv (a m) * 65536 ^ m := Nat.mul_le_mul_right _ (by omega)
      omega
  rw [this, Nat.zero_mul, Nat.add_zero]
theorem lpm21 {E : gx_E} (X : gx_X E cX10_times 6 RX10 none) (hd : 2 ≤ ex_d E) {post : gx_S → Prop} (hQ : ex_Q E = va_Qv post (gx_B (ex_Z E)) (gx_A (ex_Z E))) {t v1 i N : Nat} {R O P0 : Nat → Int32} {u0 : gx_S} (hN : N = 33) (h1 : gx_isR v1 .int) (h2 : gx_len v1 = 33) (h3 : v1 ≠ 55) (hi : i < 32) (hR : okD R N) (hO : okD O N)
    (next : ∀ u, exA [55] u0 u → okD (gx_a u 55) (i + N + 1) → (∀ k, i + N + 1 ≤ k → k < 66 → gx_a u 55 k = 0) → vA (gx_a u 55) (i + N + 1) = vA P0 (i + N) + dv (R i) * 65536 ^ i * vA O N → J_X10_times_10 E 21 v1 (nI (i + 1)) u) (hf0 : mfix t u0) (hR0 : ∀ j, j < N → gx_a u0 53 j = R j) (hO0 : ∀ j, j < N → gx_a u0 v1 j = O j) :
    ∀ (n j c : Nat) (u : gx_S), N - j = n → j ≤ N → c < 65536 → exA [55] u0 u → okD (gx_a u 55) (i + N) → (∀ k, i + N ≤ k → k < 66 → gx_a u 55 k = 0) → vA (gx_a u 55) (i + N) + c * 65536 ^ (i + j) = vA P0 (i + N) + dv (R i) * 65536 ^ i * vA O j → J_X10_times_21 E 21 v1 (nI i) (lz c) (nI j) u := by
  intro n
  induction n with
  | zero =>
    intro j c u hn hj hc hx hP hz he
    have ej : N = j := by omega
    subst ej
    have hf := exA_mfix hx hf0
    refine w_X10_times_21 X hd hQ ⟨fun _ => ⟨isO21, ?_⟩, fun q => absurd (nI_le (a := 33) (by omega) (by omega)) q⟩
    rw [show gx_r u 21 23 = 55 from hf 21 23 (by decide) (by decide), show (33 : Int32) = nI N by rw [hN]; rfl, nI_add, nI_clamp (by omega), hz (i + N) (Nat.le_refl _) (by omega), lz_i, Int32.zero_add]
    refine ⟨isA55.r, in55 (by omega), isA55, in55 (by omega), fun u6 e6 x7 e7 => ?_⟩
    rw [e7, nI_1]
    have a6 : gx_a u6 55 = upd (gx_a u 55) (i + N) (nI c) := by rw [e6, gx_a_pa, if_pos rfl]
    refine next u6 (exA_tr hx (by rw [e6]; exact exA_pa _ _ (by simp))) ?_ ?_ ?_
    · rw [a6]
      intro k hk
      by_cases e : k = i + N
      · rw [e, pk_us, dv_nI (by omega)]; exact hc
      · rw [pk_un e]; exact hP k (by omega)
    · intro k hk1 hk2
      rw [a6, pk_un (by omega)]
      exact hz k (by omega) hk2
    · rw [a6, vA_s, vA_ge _ (Nat.le_refl _), pk_us, dv_nI (by omega)]
      exact he
  | succ n ih =>
    intro j c u hn hj hc hx hP hz he
    have hf := exA_mfix hx hf0
    have eR : gx_a u 53 i = R i := by rw [hx.2.2.2 53 (by decide)]; exact hR0 i (by omega)
    have eO : gx_a u v1 j = O j := by rw [hx.2.2.2 v1 (by simpa using h3)]; exact hO0 j (by omega)
    have bR := hR i (by omega)
    have bO := hO j (by omega)
    have bP := hP (i + j) (by omega)
    have bM : dv (R i) * dv (O j) ≤ 65535 * 65535 := Nat.mul_le_mul (by omega) (by omega)
    refine w_X10_times_21 X hd hQ ⟨fun q => absurd q (nI_ge (b := 33) (by omega) (by omega)), fun _ => ⟨isO21, ?_⟩⟩
    rw [show gx_r u 21 23 = 55 from hf 21 23 (by decide) (by decide), show gx_r u 21 21 = 53 from hf 21 21 (by decide) (by decide), nI_add, nI_clamp (by omega), nI_clamp (by omega), nI_clamp (by omega), eR, eO]
    refine ⟨isA55.r, in55 (by omega), isA53.r, in33 rfl (by omega), h1, in33 h2 (by omega), fun x13 e13 => ?_⟩
    rw [lz_dv bP, lz_dv bR, lz_dv bO, lz_mul, lz_add, lz_add, show ((c : Int) + ((dv (gx_a u 55 (i + j)) : Int) + (dv (R i) : Int) * (dv (O j) : Int))) = ((c + dv (gx_a u 55 (i + j)) + dv (R i) * dv (O j) : Nat) : Int) by push_cast; omega] at e13
    generalize hxx : c + dv (gx_a u 55 (i + j)) + dv (R i) * dv (O j) = x at e13
    have hxb : x < 4294967296 := by omega
    refine ⟨isA55, in55 (by omega), fun u16 e16 x17 e17 x18 e18 => ?_⟩
    rw [e18, nI_1]
    subst e13
    rw [lz_shr (by omega) (by omega), show ((x : Int) / 65536) = ((x / 65536 : Nat) : Int) by omega] at e17
    subst e17
    rw [lz_and, show ((x : Int) % 65536).toNat = x % 65536 by omega] at e16
    have a16 : gx_a u16 55 = upd (gx_a u 55) (i + j) (nI (x % 65536)) := by rw [e16, gx_a_pa, if_pos rfl]
    refine ih (j + 1) (x / 65536) u16 (by omega) (by omega) (by omega) (exA_tr hx (by rw [e16]; exact exA_pa _ _ (by simp))) ?_ ?_ ?_
    · rw [a16]; exact okD_upd hP (by omega)
    · intro k hk1 hk2
      rw [a16, pk_un (by omega)]
      exact hz k hk1 hk2
    · rw [a16]
      have hu := vA_upd (a := gx_a u 55) (k := i + j) (x := nI (x % 65536)) (i + N) (by omega)
      rw [dv_nI (by omega)] at hu
      have hs := sp_mul x (65536 ^ (i + j))
      rw [show i + (j + 1) = (i + j) + 1 by omega, pow_s, vA_s O j, Nat.mul_add]
      have e1 : x * 65536 ^ (i + j) = c * 65536 ^ (i + j) + dv (gx_a u 55 (i + j)) * 65536 ^ (i + j) + dv (R i) * dv (O j) * 65536 ^ (i + j) := by rw [← hxx, Nat.add_mul, Nat.add_mul]
      have e2 : dv (R i) * 65536 ^ i * (dv (O j) * 65536 ^ j) = dv (R i) * dv (O j) * 65536 ^ (i + j) := by
        rw [Nat.pow_add, Nat.mul_assoc, Nat.mul_assoc, Nat.mul_left_comm (65536 ^ i)]
      omega
theorem lpm10 {E : gx_E} (X : gx_X E cX10_times 6 RX10 none) (hd : 2 ≤ ex_d E) {post : gx_S → Prop} (hQ : ex_Q E = va_Qv post (gx_B (ex_Z E)) (gx_A (ex_Z E))) {t v1 N m : Nat} {u0 : gx_S} (hN : N = 33) (hm : m = 32) (h1 : gx_isR v1 .int) (h2 : gx_len v1 = 33) (h3 : v1 ≠ 55) (hR : okD (gx_a u0 53) N) (hO : okD (gx_a u0 v1) N) (hf0 : mfix t u0)
    (next : ∀ u, exA [55] u0 u → okD (gx_a u 55) (m + N) → vA (gx_a u 55) (m + N) = vA (gx_a u0 53) m * vA (gx_a u0 v1) N → J_X10_times_10 E 21 v1 (nI m) u) :
    ∀ (n i : Nat) (u : gx_S), m - i = n → i ≤ m → exA [55] u0 u → okD (gx_a u 55) (i + N) → (∀ k, i + N ≤ k → k < 66 → gx_a u 55 k = 0) → vA (gx_a u 55) (i + N) = vA (gx_a u0 53) i * vA (gx_a u0 v1) N → J_X10_times_10 E 21 v1 (nI i) u := by
  intro n
  induction n with
  | zero =>
    intro i u hn hi hx hP hz he
    have ei : m = i := by omega
    subst ei
    exact next u hx hP he
  | succ n ih =>
    intro i u hn hi hx hP hz he
    refine w_X10_times_10 X hd hQ ⟨fun q => absurd q (nI_ge (b := 32) (by omega) (by omega)), fun _ => ?_⟩
    refine lpm21 X hd hQ (P0 := gx_a u 55) hN h1 h2 h3 (by omega) hR hO (fun v hv hok hzv hval => ?_) hf0 (fun _ _ => rfl) (fun _ _ => rfl) N 0 0 u (by omega) (by omega) (by omega) hx hP hz (by rw [Nat.zero_mul, vA_0, Nat.mul_zero])
    refine ih (i + 1) v (by omega) (by omega) hv (by rw [show i + 1 + N = i + N + 1 by omega]; exact hok) (fun k a b => hzv k (by omega) b) ?_
    rw [show i + 1 + N = i + N + 1 by omega, hval, he, vA_s (gx_a u0 53) i, Nat.add_mul]
theorem w_X10_times {E : gx_E} (X : gx_X E cX10_times 6 RX10 none) (hd : 2 ≤ ex_d E) {post : gx_S → Prop} (hQ : ex_Q E = va_Qv post (gx_B (ex_Z E)) (gx_A (ex_Z E))) {u : gx_S} {v0 v1 : Nat} (h : S_X10_times u v0 v1 post) : gx_Wc E 6 0 [(0, .ref (ex_ad E v0)), (1, .ref (ex_ad E v1))] [] u := by
  obtain ⟨rfl, t, N, n, hN, hn, hf, h1, h2, h3, h4, ok1, okP, okM, hM0, hM1, hl1, hlP, hp⟩ := h
  refine w_X10_times_0 X hd hQ ⟨isO21, ?_⟩
  rw [show gx_r u 21 23 = 55 from hf 21 23 (by decide) (by decide)]
  refine ⟨isA55, by decide, rfl, fun v xv mv => ?_⟩
  have mz : ∀ k, k < 66 → gx_a v 55 k = 0 := fun k hk => mv k hk
  have e53 : gx_a v 53 = gx_a u 53 := xv.2.2.2 53 (by decide)
  have e52 : gx_a v 52 = gx_a u 52 := xv.2.2.2 52 (by decide)
  have e1 : gx_a v v1 = gx_a u v1 := xv.2.2.2 v1 (by simpa using h4)
  refine lpm10 X hd hQ (u0 := v) (N := N) (m := n) hN hn h1 h2 h4 (by rw [e53]; exact okP) (by rw [e1]; exact ok1) (exA_mfix xv hf) (fun w xw okw hw => ?_) n 0 v (by omega) (by omega) (exA_rf _ _) (fun j hj => by rw [mz j (by omega)]; decide) (fun k _ hk => mz k hk) (by rw [vA_zero (0 + N) (fun j hj => mz j (by omega)), vA_0, Nat.zero_mul])
  have xuw : exA [53, 55] u w := exA_wk (exA_tr xv xw) (by simp)
  have hfw := exA_mfix xuw hf
  have w52 : gx_a w 52 = gx_a u 52 := by rw [xw.2.2.2 52 (by decide), e52]
  rw [e53, e1] at hw
  have hNn : N = n + 1 := by omega
  have hPn : vA (gx_a u 53) N = vA (gx_a u 53) n := by rw [hNn] at hlP ⊢; exact top0 hlP
  refine w_X10_times_10 X hd hQ ⟨fun _ => ⟨isO21, ?_⟩, fun q => absurd (nI_le (a := 32) (by omega) (by omega)) q⟩
  rw [show gx_r w 21 23 = 55 from hfw 21 23 (by decide) (by decide), show gx_r w 21 21 = 53 from hfw 21 21 (by decide) (by decide)]
  have hval : vA (gx_a w 55) (n + n) = vA (gx_a u 53) N * vA (gx_a u v1) N := by
    have hlt : vA (gx_a w 55) (n + n + 1) < 65536 ^ (n + n) := by
      rw [show n + n + 1 = n + N by omega, hw, ← hPn, Nat.pow_add]
      exact Nat.mul_lt_mul'' hlP hl1
    rw [← top0 hlt, show n + n + 1 = n + N by omega, hw, hPn]
  refine ⟨rfl, rfl, t, n + n, N, hN, hfw, isA55.r, by omega, by show n + n ≤ 66; omega, by decide, by decide, by rw [hn]; rfl, fun j hj => okw j (by omega), by rw [w52]; exact okM, by rw [w52]; exact hM0, ?_, fun x xx okx hx => ?_⟩
  · rw [w52, hNn, pow_s]
    rw [hNn] at hM1
    generalize 65536 ^ n = P at *
    omega
  · refine hp x (exA_tr xuw (exA_wk xx (by simp))) okx ?_
    rw [hx, hval, w52]
theorem c_X10_times {l : Launch} {Z : gx_Z} {u : gx_S} {v0 : Nat} {v1 : Nat} {post : gx_S → Prop} (h : S_X10_times u v0 v1 post) : Met l yX10_times (Cond.code yX10_times cX10_times 6 none :: gx_TB) (gx_rm 2) (gx_Pre Z u [.ref (Z.2.1 v0), .ref (Z.2.1 v1)]) (va_Qv post (gx_B Z) (gx_A Z)) 0 0 (gx_A Z) := by
  refine gx_met (by decide +kernel) (Nat.le_of_ble_eq_true rfl) ?_
  intro E X hZ hQ hD hL
  subst hZ
  exact w_X10_times X (Nat.le_of_eq hD.symm) hQ h

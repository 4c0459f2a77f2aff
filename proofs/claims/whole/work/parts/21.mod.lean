-- PlainSeal$Modular.takeNumber(LPlainSeal$Bytes;I[I)V
theorem dX2_takeNumber_0 : decode cX2_takeNumber 0 = .ok (.iload_n 1, 1) := by decide +kernel
theorem dX2_takeNumber_1 : decode cX2_takeNumber 1 = .ok (.bipush 64, 2) := by decide +kernel
theorem dX2_takeNumber_3 : decode cX2_takeNumber 3 = .ok (.iadd, 1) := by decide +kernel
theorem dX2_takeNumber_4 : decode cX2_takeNumber 4 = .ok (.iconst 1, 1) := by decide +kernel
theorem dX2_takeNumber_5 : decode cX2_takeNumber 5 = .ok (.isub, 1) := by decide +kernel
theorem dX2_takeNumber_6 : decode cX2_takeNumber 6 = .ok (.istore_n 3, 1) := by decide +kernel
theorem dX2_takeNumber_7 : decode cX2_takeNumber 7 = .ok (.iconst 0, 1) := by decide +kernel
theorem dX2_takeNumber_8 : decode cX2_takeNumber 8 = .ok (.istore 4, 2) := by decide +kernel
theorem dX2_takeNumber_10 : decode cX2_takeNumber 10 = .ok (.iload 4, 2) := by decide +kernel
theorem dX2_takeNumber_12 : decode cX2_takeNumber 12 = .ok (.bipush 32, 2) := by decide +kernel
theorem dX2_takeNumber_14 : decode cX2_takeNumber 14 = .ok (.if_icmp .ge 39, 3) := by decide +kernel
theorem dX2_takeNumber_17 : decode cX2_takeNumber 17 = .ok (.aload_n 2, 1) := by decide +kernel
theorem dX2_takeNumber_18 : decode cX2_takeNumber 18 = .ok (.iload 4, 2) := by decide +kernel
theorem dX2_takeNumber_20 : decode cX2_takeNumber 20 = .ok (.aload_n 0, 1) := by decide +kernel
theorem dX2_takeNumber_21 : decode cX2_takeNumber 21 = .ok (.iload_n 3, 1) := by decide +kernel
theorem dX2_takeNumber_22 : decode cX2_takeNumber 22 = .ok (.iconst 2, 1) := by decide +kernel
theorem dX2_takeNumber_23 : decode cX2_takeNumber 23 = .ok (.iload 4, 2) := by decide +kernel
theorem dX2_takeNumber_25 : decode cX2_takeNumber 25 = .ok (.imul, 1) := by decide +kernel
theorem dX2_takeNumber_26 : decode cX2_takeNumber 26 = .ok (.isub, 1) := by decide +kernel
theorem dX2_takeNumber_27 : decode cX2_takeNumber 27 = .ok (.iconst 1, 1) := by decide +kernel
theorem dX2_takeNumber_28 : decode cX2_takeNumber 28 = .ok (.isub, 1) := by decide +kernel
theorem dX2_takeNumber_29 : decode cX2_takeNumber 29 = .ok (.invokevirtual 28, 3) := by decide +kernel
theorem dX2_takeNumber_32 : decode cX2_takeNumber 32 = .ok (.bipush 8, 2) := by decide +kernel
theorem dX2_takeNumber_34 : decode cX2_takeNumber 34 = .ok (.ishl, 1) := by decide +kernel
theorem dX2_takeNumber_35 : decode cX2_takeNumber 35 = .ok (.aload_n 0, 1) := by decide +kernel
theorem dX2_takeNumber_36 : decode cX2_takeNumber 36 = .ok (.iload_n 3, 1) := by decide +kernel
theorem dX2_takeNumber_37 : decode cX2_takeNumber 37 = .ok (.iconst 2, 1) := by decide +kernel
theorem dX2_takeNumber_38 : decode cX2_takeNumber 38 = .ok (.iload 4, 2) := by decide +kernel
theorem dX2_takeNumber_40 : decode cX2_takeNumber 40 = .ok (.imul, 1) := by decide +kernel
theorem dX2_takeNumber_41 : decode cX2_takeNumber 41 = .ok (.isub, 1) := by decide +kernel
theorem dX2_takeNumber_42 : decode cX2_takeNumber 42 = .ok (.invokevirtual 28, 3) := by decide +kernel
theorem dX2_takeNumber_45 : decode cX2_takeNumber 45 = .ok (.ior, 1) := by decide +kernel
theorem dX2_takeNumber_46 : decode cX2_takeNumber 46 = .ok (.iastore, 1) := by decide +kernel
theorem dX2_takeNumber_47 : decode cX2_takeNumber 47 = .ok (.iinc 4 1, 3) := by decide +kernel
theorem dX2_takeNumber_50 : decode cX2_takeNumber 50 = .ok (.goto (-40), 3) := by decide +kernel
theorem dX2_takeNumber_53 : decode cX2_takeNumber 53 = .ok (.return_, 1) := by decide +kernel
theorem hyX2_takeNumber : yX2_takeNumber.cls ≠ "java/lang/invoke/MethodHandle" ∧ yX2_takeNumber.cls ≠ "java/lang/invoke/VarHandle" ∧ (parseMethodDescriptor yX2_takeNumber.desc).map (fun d => d.parameters.length) = some 3 := by decide +kernel
abbrev J_X2_takeNumber_10 (E : gx_E) (v0 : Nat) (v1 : Int32) (v2 : Nat) (v3 : Int32) (v4 : Int32) (u : gx_S) : Prop := gx_Wc E 5 10 [(0, .ref (ex_ad E v0)), (1, .int v1), (2, .ref (ex_ad E v2)), (3, .int v3), (4, .int v4)] [] u
set_option maxHeartbeats 4000000 in
set_option maxRecDepth 100000 in
theorem w_X2_takeNumber_0 {E : gx_E} (X : gx_X E cX2_takeNumber 5 RX2 none) (hd : 1 ≤ ex_d E) {post : gx_S → Prop} (hQ : ex_Q E = va_Qv post (gx_B (ex_Z E)) (gx_A (ex_Z E))) {u : gx_S} {v0 : Nat} {v1 : Int32} {v2 : Nat} (h : (∀ x1 : Int32, x1 = ((v1 + (64 : Int32)) - (1 : Int32)) → J_X2_takeNumber_10 E v0 v1 v2 x1 (0 : Int32) u)) : gx_Wc E 5 0 [(0, .ref (ex_ad E v0)), (1, .int v1), (2, .ref (ex_ad E v2))] [] u := by
  refine gx_iload_n X (j := 1) dX2_takeNumber_0 rfl rfl ?_
  refine gx_bipush X (v := 64) dX2_takeNumber_1 (by decide) ?_
  refine gx_iadd X dX2_takeNumber_3 ?_
  refine gx_iconst X (v := 1) dX2_takeNumber_4 (by decide) ?_
  refine gx_isub X dX2_takeNumber_5 ?_
  refine gx_nami (fun x1 ex1 => ?_)
  replace h := h x1 ex1
  refine gx_istore_n X (lv' := [(3, .int x1), (0, .ref (ex_ad E v0)), (1, .int v1), (2, .ref (ex_ad E v2))]) dX2_takeNumber_6 rfl (by decide) rfl ?_
  refine gx_iconst X (v := 0) dX2_takeNumber_7 (by decide) ?_
  refine gx_istore X (lv' := [(4, .int (0 : Int32)), (3, .int x1), (0, .ref (ex_ad E v0)), (1, .int v1), (2, .ref (ex_ad E v2))]) dX2_takeNumber_8 (by decide) rfl ?_
  exact gx_sub [2, 3, 4, 1, 0] rfl h
set_option maxHeartbeats 4000000 in
set_option maxRecDepth 100000 in
theorem w_X2_takeNumber_10 {E : gx_E} (X : gx_X E cX2_takeNumber 5 RX2 none) (hd : 1 ≤ ex_d E) {post : gx_S → Prop} (hQ : ex_Q E = va_Qv post (gx_B (ex_Z E)) (gx_A (ex_Z E))) {u : gx_S} {v0 : Nat} {v1 : Int32} {v2 : Nat} {v3 : Int32} {v4 : Int32} (h : (((32 : Int32) ≤ v4 → post u) ∧ (¬ (32 : Int32) ≤ v4 → (gx_isO v0 0 ∧ S_X0_at u v0 ((v3 - ((2 : Int32) * v4)) - (1 : Int32)) (fun (r3 : Int32) (u2 : gx_S) => (S_X0_at u2 v0 (v3 - ((2 : Int32) * v4)) (fun (r5 : Int32) (u4 : gx_S) => (gx_isA v2 .int ∧ vp_in v4 (gx_len v2) ∧ ∀ u8 : gx_S, u8 = gx_pa u4 v2 (upd (gx_a u4 v2) v4.toNatClampNeg ((r3 <<< ((8 : Int32) &&& 31)) ||| r5)) → (∀ x9 : Int32, x9 = v4 + 1 → J_X2_takeNumber_10 E v0 v1 v2 v3 x9 u8))))))))) : gx_Wc E 5 10 [(0, .ref (ex_ad E v0)), (1, .int v1), (2, .ref (ex_ad E v2)), (3, .int v3), (4, .int v4)] [] u := by
  refine gx_iload X (j := 4) dX2_takeNumber_10 rfl ?_
  refine gx_bipush X (v := 32) dX2_takeNumber_12 (by decide) ?_
  refine gx_icmp_ge X (tgt := 53) dX2_takeNumber_14 (by decide) (fun c10 => ?_) (fun c10 => ?_)
  · replace h := h.1 c10
    exact gx_vret X hQ h dX2_takeNumber_53
  · replace h := h.2 c10
    refine gx_aload_n X (j := 2) dX2_takeNumber_17 rfl rfl ?_
    refine gx_iload X (j := 4) dX2_takeNumber_18 rfl ?_
    refine gx_aload_n X (j := 0) dX2_takeNumber_20 rfl rfl ?_
    refine gx_iload_n X (j := 3) dX2_takeNumber_21 rfl rfl ?_
    refine gx_iconst X (v := 2) dX2_takeNumber_22 (by decide) ?_
    refine gx_iload X (j := 4) dX2_takeNumber_23 rfl ?_
    refine gx_imul X dX2_takeNumber_25 ?_
    refine gx_isub X dX2_takeNumber_26 ?_
    refine gx_iconst X (v := 1) dX2_takeNumber_27 (by decide) ?_
    refine gx_isub X dX2_takeNumber_28 ?_
    obtain ⟨k1, h⟩ := h
    refine gx_ki (gx_rV X (c_X0_at h) (Nat.le_trans (by decide) hd) (Nat.le_trans (by decide) (Nat.mul_le_mul_left 40 hd)) k1 rfl mw_375 mw_163 mw_164 mw_2 mw_165 hyX0_at (As := [.int ((v3 - ((2 : Int32) * v4)) - (1 : Int32))]) (rest := [.int v4, .ref (ex_ad E v2)]) rfl rfl (Nat.le_of_ble_eq_true rfl) dX2_takeNumber_29) (fun r3 u2 h => ?_)
    refine gx_bipush X (v := 8) dX2_takeNumber_32 (by decide) ?_
    refine gx_ishl X dX2_takeNumber_34 ?_
    refine gx_aload_n X (j := 0) dX2_takeNumber_35 rfl rfl ?_
    refine gx_iload_n X (j := 3) dX2_takeNumber_36 rfl rfl ?_
    refine gx_iconst X (v := 2) dX2_takeNumber_37 (by decide) ?_
    refine gx_iload X (j := 4) dX2_takeNumber_38 rfl ?_
    refine gx_imul X dX2_takeNumber_40 ?_
    refine gx_isub X dX2_takeNumber_41 ?_
    refine gx_ki (gx_rV X (c_X0_at h) (Nat.le_trans (by decide) hd) (Nat.le_trans (by decide) (Nat.mul_le_mul_left 40 hd)) k1 rfl mw_375 mw_163 mw_164 mw_2 mw_165 hyX0_at (As := [.int (v3 - ((2 : Int32) * v4))]) (rest := [.int (r3 <<< ((8 : Int32) &&& 31)), .int v4, .ref (ex_ad E v2)]) rfl rfl (Nat.le_of_ble_eq_true rfl) dX2_takeNumber_42) (fun r5 u4 h => ?_)
    refine gx_ior X dX2_takeNumber_45 ?_
    obtain ⟨k6, h⟩ := h
    obtain ⟨k7, h⟩ := h
    refine gx_iast X k6 k7 dX2_takeNumber_46 ?_
    refine gx_nams (fun u8 eu8 => ?_)
    replace h := h u8 eu8
    obtain ⟨x9, ex9⟩ : ∃ y : Int32, y = v4 + 1 := ⟨_, rfl⟩
    replace h := h x9 ex9
    refine gx_iinc X (v := x9) (lv' := [(4, .int x9), (0, .ref (ex_ad E v0)), (1, .int v1), (2, .ref (ex_ad E v2)), (3, .int v3)]) dX2_takeNumber_47 (j := 4) rfl (by rw [ex9]; rfl) (by decide) rfl ?_
    refine gx_goto X (tgt := 10) dX2_takeNumber_50 (by decide) ?_
    exact gx_sub [1, 2, 3, 4, 0] rfl h
-- PlainSeal$Modular.multiplyRestBy([I)V
theorem dX2_multiplyRestBy_0 : decode cX2_multiplyRestBy 0 = .ok (.iconst 0, 1) := by decide +kernel
theorem dX2_multiplyRestBy_1 : decode cX2_multiplyRestBy 1 = .ok (.istore_n 2, 1) := by decide +kernel
theorem dX2_multiplyRestBy_2 : decode cX2_multiplyRestBy 2 = .ok (.iload_n 2, 1) := by decide +kernel
theorem dX2_multiplyRestBy_3 : decode cX2_multiplyRestBy 3 = .ok (.bipush 32, 2) := by decide +kernel
theorem dX2_multiplyRestBy_5 : decode cX2_multiplyRestBy 5 = .ok (.if_icmp .ge 16, 3) := by decide +kernel
theorem dX2_multiplyRestBy_8 : decode cX2_multiplyRestBy 8 = .ok (.aload_n 0, 1) := by decide +kernel
theorem dX2_multiplyRestBy_9 : decode cX2_multiplyRestBy 9 = .ok (.getfield 19, 3) := by decide +kernel
theorem dX2_multiplyRestBy_12 : decode cX2_multiplyRestBy 12 = .ok (.iload_n 2, 1) := by decide +kernel
theorem dX2_multiplyRestBy_13 : decode cX2_multiplyRestBy 13 = .ok (.iconst 0, 1) := by decide +kernel
theorem dX2_multiplyRestBy_14 : decode cX2_multiplyRestBy 14 = .ok (.iastore, 1) := by decide +kernel
theorem dX2_multiplyRestBy_15 : decode cX2_multiplyRestBy 15 = .ok (.iinc 2 1, 3) := by decide +kernel
theorem dX2_multiplyRestBy_18 : decode cX2_multiplyRestBy 18 = .ok (.goto (-16), 3) := by decide +kernel
theorem dX2_multiplyRestBy_21 : decode cX2_multiplyRestBy 21 = .ok (.iconst 0, 1) := by decide +kernel
theorem dX2_multiplyRestBy_22 : decode cX2_multiplyRestBy 22 = .ok (.istore_n 2, 1) := by decide +kernel
theorem dX2_multiplyRestBy_23 : decode cX2_multiplyRestBy 23 = .ok (.iload_n 2, 1) := by decide +kernel
theorem dX2_multiplyRestBy_24 : decode cX2_multiplyRestBy 24 = .ok (.bipush 32, 2) := by decide +kernel
theorem dX2_multiplyRestBy_26 : decode cX2_multiplyRestBy 26 = .ok (.if_icmp .ge 85, 3) := by decide +kernel
theorem dX2_multiplyRestBy_29 : decode cX2_multiplyRestBy 29 = .ok (.lconst 0, 1) := by decide +kernel
theorem dX2_multiplyRestBy_30 : decode cX2_multiplyRestBy 30 = .ok (.lstore_n 3, 1) := by decide +kernel
theorem dX2_multiplyRestBy_31 : decode cX2_multiplyRestBy 31 = .ok (.iconst 0, 1) := by decide +kernel
theorem dX2_multiplyRestBy_32 : decode cX2_multiplyRestBy 32 = .ok (.istore 5, 2) := by decide +kernel
theorem dX2_multiplyRestBy_34 : decode cX2_multiplyRestBy 34 = .ok (.iload 5, 2) := by decide +kernel
theorem dX2_multiplyRestBy_36 : decode cX2_multiplyRestBy 36 = .ok (.bipush 32, 2) := by decide +kernel
theorem dX2_multiplyRestBy_38 : decode cX2_multiplyRestBy 38 = .ok (.if_icmp .ge 56, 3) := by decide +kernel
theorem dX2_multiplyRestBy_41 : decode cX2_multiplyRestBy 41 = .ok (.lload_n 3, 1) := by decide +kernel
theorem dX2_multiplyRestBy_42 : decode cX2_multiplyRestBy 42 = .ok (.aload_n 0, 1) := by decide +kernel
theorem dX2_multiplyRestBy_43 : decode cX2_multiplyRestBy 43 = .ok (.getfield 19, 3) := by decide +kernel
theorem dX2_multiplyRestBy_46 : decode cX2_multiplyRestBy 46 = .ok (.iload_n 2, 1) := by decide +kernel
theorem dX2_multiplyRestBy_47 : decode cX2_multiplyRestBy 47 = .ok (.iload 5, 2) := by decide +kernel
theorem dX2_multiplyRestBy_49 : decode cX2_multiplyRestBy 49 = .ok (.iadd, 1) := by decide +kernel
theorem dX2_multiplyRestBy_50 : decode cX2_multiplyRestBy 50 = .ok (.iaload, 1) := by decide +kernel
theorem dX2_multiplyRestBy_51 : decode cX2_multiplyRestBy 51 = .ok (.i2l, 1) := by decide +kernel
theorem dX2_multiplyRestBy_52 : decode cX2_multiplyRestBy 52 = .ok (.aload_n 0, 1) := by decide +kernel
theorem dX2_multiplyRestBy_53 : decode cX2_multiplyRestBy 53 = .ok (.getfield 16, 3) := by decide +kernel
theorem dX2_multiplyRestBy_56 : decode cX2_multiplyRestBy 56 = .ok (.iload_n 2, 1) := by decide +kernel
theorem dX2_multiplyRestBy_57 : decode cX2_multiplyRestBy 57 = .ok (.iaload, 1) := by decide +kernel
theorem dX2_multiplyRestBy_58 : decode cX2_multiplyRestBy 58 = .ok (.i2l, 1) := by decide +kernel
theorem dX2_multiplyRestBy_59 : decode cX2_multiplyRestBy 59 = .ok (.aload_n 1, 1) := by decide +kernel
theorem dX2_multiplyRestBy_60 : decode cX2_multiplyRestBy 60 = .ok (.iload 5, 2) := by decide +kernel
theorem dX2_multiplyRestBy_62 : decode cX2_multiplyRestBy 62 = .ok (.iaload, 1) := by decide +kernel
theorem dX2_multiplyRestBy_63 : decode cX2_multiplyRestBy 63 = .ok (.i2l, 1) := by decide +kernel
theorem dX2_multiplyRestBy_64 : decode cX2_multiplyRestBy 64 = .ok (.lmul, 1) := by decide +kernel
theorem dX2_multiplyRestBy_65 : decode cX2_multiplyRestBy 65 = .ok (.ladd, 1) := by decide +kernel
theorem dX2_multiplyRestBy_66 : decode cX2_multiplyRestBy 66 = .ok (.ladd, 1) := by decide +kernel
theorem dX2_multiplyRestBy_67 : decode cX2_multiplyRestBy 67 = .ok (.lstore_n 3, 1) := by decide +kernel
theorem dX2_multiplyRestBy_68 : decode cX2_multiplyRestBy 68 = .ok (.aload_n 0, 1) := by decide +kernel
theorem dX2_multiplyRestBy_69 : decode cX2_multiplyRestBy 69 = .ok (.getfield 19, 3) := by decide +kernel
theorem dX2_multiplyRestBy_72 : decode cX2_multiplyRestBy 72 = .ok (.iload_n 2, 1) := by decide +kernel
theorem dX2_multiplyRestBy_73 : decode cX2_multiplyRestBy 73 = .ok (.iload 5, 2) := by decide +kernel
theorem dX2_multiplyRestBy_75 : decode cX2_multiplyRestBy 75 = .ok (.iadd, 1) := by decide +kernel
theorem dX2_multiplyRestBy_76 : decode cX2_multiplyRestBy 76 = .ok (.lload_n 3, 1) := by decide +kernel
theorem dX2_multiplyRestBy_77 : decode cX2_multiplyRestBy 77 = .ok (.ldc2_w 53, 3) := by decide +kernel
theorem dX2_multiplyRestBy_80 : decode cX2_multiplyRestBy 80 = .ok (.land, 1) := by decide +kernel
theorem dX2_multiplyRestBy_81 : decode cX2_multiplyRestBy 81 = .ok (.l2i, 1) := by decide +kernel
theorem dX2_multiplyRestBy_82 : decode cX2_multiplyRestBy 82 = .ok (.iastore, 1) := by decide +kernel
theorem dX2_multiplyRestBy_83 : decode cX2_multiplyRestBy 83 = .ok (.lload_n 3, 1) := by decide +kernel
theorem dX2_multiplyRestBy_84 : decode cX2_multiplyRestBy 84 = .ok (.bipush 16, 2) := by decide +kernel
theorem dX2_multiplyRestBy_86 : decode cX2_multiplyRestBy 86 = .ok (.lshr, 1) := by decide +kernel
theorem dX2_multiplyRestBy_87 : decode cX2_multiplyRestBy 87 = .ok (.lstore_n 3, 1) := by decide +kernel
theorem dX2_multiplyRestBy_88 : decode cX2_multiplyRestBy 88 = .ok (.iinc 5 1, 3) := by decide +kernel
theorem dX2_multiplyRestBy_91 : decode cX2_multiplyRestBy 91 = .ok (.goto (-57), 3) := by decide +kernel
theorem dX2_multiplyRestBy_94 : decode cX2_multiplyRestBy 94 = .ok (.aload_n 0, 1) := by decide +kernel
theorem dX2_multiplyRestBy_95 : decode cX2_multiplyRestBy 95 = .ok (.getfield 19, 3) := by decide +kernel
theorem dX2_multiplyRestBy_98 : decode cX2_multiplyRestBy 98 = .ok (.iload_n 2, 1) := by decide +kernel
theorem dX2_multiplyRestBy_99 : decode cX2_multiplyRestBy 99 = .ok (.bipush 32, 2) := by decide +kernel
theorem dX2_multiplyRestBy_101 : decode cX2_multiplyRestBy 101 = .ok (.iadd, 1) := by decide +kernel
theorem dX2_multiplyRestBy_102 : decode cX2_multiplyRestBy 102 = .ok (.lload_n 3, 1) := by decide +kernel
theorem dX2_multiplyRestBy_103 : decode cX2_multiplyRestBy 103 = .ok (.l2i, 1) := by decide +kernel
theorem dX2_multiplyRestBy_104 : decode cX2_multiplyRestBy 104 = .ok (.iastore, 1) := by decide +kernel
theorem dX2_multiplyRestBy_105 : decode cX2_multiplyRestBy 105 = .ok (.iinc 2 1, 3) := by decide +kernel
theorem dX2_multiplyRestBy_108 : decode cX2_multiplyRestBy 108 = .ok (.goto (-85), 3) := by decide +kernel
theorem dX2_multiplyRestBy_111 : decode cX2_multiplyRestBy 111 = .ok (.return_, 1) := by decide +kernel
theorem hyX2_multiplyRestBy : yX2_multiplyRestBy.cls ≠ "java/lang/invoke/MethodHandle" ∧ yX2_multiplyRestBy.cls ≠ "java/lang/invoke/VarHandle" ∧ (parseMethodDescriptor yX2_multiplyRestBy.desc).map (fun d => d.parameters.length) = some 1 := by decide +kernel
abbrev J_X2_multiplyRestBy_2 (E : gx_E) (v0 : Nat) (v1 : Nat) (v2 : Int32) (u : gx_S) : Prop := gx_Wc E 6 2 [(0, .ref (ex_ad E v0)), (1, .ref (ex_ad E v1)), (2, .int v2)] [] u
abbrev J_X2_multiplyRestBy_23 (E : gx_E) (v0 : Nat) (v1 : Nat) (v2 : Int32) (u : gx_S) : Prop := gx_Wc E 6 23 [(0, .ref (ex_ad E v0)), (1, .ref (ex_ad E v1)), (2, .int v2)] [] u
abbrev J_X2_multiplyRestBy_34 (E : gx_E) (v0 : Nat) (v1 : Nat) (v2 : Int32) (v3 : Int64) (v5 : Int32) (u : gx_S) : Prop := gx_Wc E 6 34 [(0, .ref (ex_ad E v0)), (1, .ref (ex_ad E v1)), (2, .int v2), (3, .long v3), (5, .int v5)] [] u
set_option maxHeartbeats 4000000 in
set_option maxRecDepth 100000 in
theorem w_X2_multiplyRestBy_0 {E : gx_E} (X : gx_X E cX2_multiplyRestBy 6 RX2 none) (hd : 0 ≤ ex_d E) {post : gx_S → Prop} (hQ : ex_Q E = va_Qv post (gx_B (ex_Z E)) (gx_A (ex_Z E))) {u : gx_S} {v0 : Nat} {v1 : Nat} (h : J_X2_multiplyRestBy_2 E v0 v1 (0 : Int32) u) : gx_Wc E 6 0 [(0, .ref (ex_ad E v0)), (1, .ref (ex_ad E v1))] [] u := by
  refine gx_iconst X (v := 0) dX2_multiplyRestBy_0 (by decide) ?_
  refine gx_istore_n X (lv' := [(2, .int (0 : Int32)), (0, .ref (ex_ad E v0)), (1, .ref (ex_ad E v1))]) dX2_multiplyRestBy_1 rfl (by decide) rfl ?_
  exact gx_sub [1, 2, 0] rfl h
set_option maxHeartbeats 4000000 in
set_option maxRecDepth 100000 in
theorem w_X2_multiplyRestBy_2 {E : gx_E} (X : gx_X E cX2_multiplyRestBy 6 RX2 none) (hd : 0 ≤ ex_d E) {post : gx_S → Prop} (hQ : ex_Q E = va_Qv post (gx_B (ex_Z E)) (gx_A (ex_Z E))) {u : gx_S} {v0 : Nat} {v1 : Nat} {v2 : Int32} (h : (((32 : Int32) ≤ v2 → J_X2_multiplyRestBy_23 E v0 v1 (0 : Int32) u) ∧ (¬ (32 : Int32) ≤ v2 → (gx_isO v0 2 ∧ (gx_isA (gx_r u v0 3) .int ∧ vp_in v2 (gx_len (gx_r u v0 3)) ∧ ∀ u4 : gx_S, u4 = gx_pa u (gx_r u v0 3) (upd (gx_a u (gx_r u v0 3)) v2.toNatClampNeg (0 : Int32)) → (∀ x5 : Int32, x5 = v2 + 1 → J_X2_multiplyRestBy_2 E v0 v1 x5 u4)))))) : gx_Wc E 6 2 [(0, .ref (ex_ad E v0)), (1, .ref (ex_ad E v1)), (2, .int v2)] [] u := by
  refine gx_iload_n X (j := 2) dX2_multiplyRestBy_2 rfl rfl ?_
  refine gx_bipush X (v := 32) dX2_multiplyRestBy_3 (by decide) ?_
  refine gx_icmp_ge X (tgt := 21) dX2_multiplyRestBy_5 (by decide) (fun c6 => ?_) (fun c6 => ?_)
  · replace h := h.1 c6
    refine gx_iconst X (v := 0) dX2_multiplyRestBy_21 (by decide) ?_
    refine gx_istore_n X (lv' := [(2, .int (0 : Int32)), (0, .ref (ex_ad E v0)), (1, .ref (ex_ad E v1))]) dX2_multiplyRestBy_22 rfl (by decide) rfl ?_
    exact gx_sub [1, 2, 0] rfl h
  · replace h := h.2 c6
    refine gx_aload_n X (j := 0) dX2_multiplyRestBy_8 rfl rfl ?_
    obtain ⟨k1, h⟩ := h
    refine gx_get X k1 rfl iwX2 3 (by decide) mw_94 (v := .ref (ex_ad E (gx_r u v0 3))) rfl dX2_multiplyRestBy_9 ?_
    refine gx_iload_n X (j := 2) dX2_multiplyRestBy_12 rfl rfl ?_
    refine gx_iconst X (v := 0) dX2_multiplyRestBy_13 (by decide) ?_
    obtain ⟨k2, h⟩ := h
    obtain ⟨k3, h⟩ := h
    refine gx_iast X k2 k3 dX2_multiplyRestBy_14 ?_
    refine gx_nams (fun u4 eu4 => ?_)
    replace h := h u4 eu4
    obtain ⟨x5, ex5⟩ : ∃ y : Int32, y = v2 + 1 := ⟨_, rfl⟩
    replace h := h x5 ex5
    refine gx_iinc X (v := x5) (lv' := [(2, .int x5), (0, .ref (ex_ad E v0)), (1, .ref (ex_ad E v1))]) dX2_multiplyRestBy_15 (j := 2) rfl (by rw [ex5]; rfl) (by decide) rfl ?_
    refine gx_goto X (tgt := 2) dX2_multiplyRestBy_18 (by decide) ?_
    exact gx_sub [1, 2, 0] rfl h
set_option maxHeartbeats 4000000 in
set_option maxRecDepth 100000 in
theorem w_X2_multiplyRestBy_23 {E : gx_E} (X : gx_X E cX2_multiplyRestBy 6 RX2 none) (hd : 0 ≤ ex_d E) {post : gx_S → Prop} (hQ : ex_Q E = va_Qv post (gx_B (ex_Z E)) (gx_A (ex_Z E))) {u : gx_S} {v0 : Nat} {v1 : Nat} {v2 : Int32} (h : (((32 : Int32) ≤ v2 → post u) ∧ (¬ (32 : Int32) ≤ v2 → J_X2_multiplyRestBy_34 E v0 v1 v2 (0 : Int64) (0 : Int32) u))) : gx_Wc E 6 23 [(0, .ref (ex_ad E v0)), (1, .ref (ex_ad E v1)), (2, .int v2)] [] u := by
  refine gx_iload_n X (j := 2) dX2_multiplyRestBy_23 rfl rfl ?_
  refine gx_bipush X (v := 32) dX2_multiplyRestBy_24 (by decide) ?_
  refine gx_icmp_ge X (tgt := 111) dX2_multiplyRestBy_26 (by decide) (fun c1 => ?_) (fun c1 => ?_)
  · replace h := h.1 c1
    exact gx_vret X hQ h dX2_multiplyRestBy_111
  · replace h := h.2 c1
    refine gx_lconst X (v := 0) dX2_multiplyRestBy_29 (by decide) ?_
    refine gx_lstore_n X (lv' := [(3, .long (0 : Int64)), (0, .ref (ex_ad E v0)), (1, .ref (ex_ad E v1)), (2, .int v2)]) dX2_multiplyRestBy_30 rfl (by decide) rfl ?_
    refine gx_iconst X (v := 0) dX2_multiplyRestBy_31 (by decide) ?_
    refine gx_istore X (lv' := [(5, .int (0 : Int32)), (3, .long (0 : Int64)), (0, .ref (ex_ad E v0)), (1, .ref (ex_ad E v1)), (2, .int v2)]) dX2_multiplyRestBy_32 (by decide) rfl ?_
    exact gx_sub [2, 3, 4, 1, 0] rfl h
set_option maxHeartbeats 4000000 in
set_option maxRecDepth 100000 in
theorem w_X2_multiplyRestBy_34 {E : gx_E} (X : gx_X E cX2_multiplyRestBy 6 RX2 none) (hd : 0 ≤ ex_d E) {post : gx_S → Prop} (hQ : ex_Q E = va_Qv post (gx_B (ex_Z E)) (gx_A (ex_Z E))) {u : gx_S} {v0 : Nat} {v1 : Nat} {v2 : Int32} {v3 : Int64} {v5 : Int32} (h : (((32 : Int32) ≤ v5 → (gx_isO v0 2 ∧ (gx_isA (gx_r u v0 3) .int ∧ vp_in (v2 + (32 : Int32)) (gx_len (gx_r u v0 3)) ∧ ∀ u4 : gx_S, u4 = gx_pa u (gx_r u v0 3) (upd (gx_a u (gx_r u v0 3)) (v2 + (32 : Int32)).toNatClampNeg (v3).toInt32) → (∀ x5 : Int32, x5 = v2 + 1 → J_X2_multiplyRestBy_23 E v0 v1 x5 u4)))) ∧ (¬ (32 : Int32) ≤ v5 → (gx_isO v0 2 ∧ (gx_isR (gx_r u v0 3) .int ∧ vp_in (v2 + v5) (gx_len (gx_r u v0 3)) ∧ (gx_isR (gx_r u v0 2) .int ∧ vp_in v2 (gx_len (gx_r u v0 2)) ∧ (gx_isR v1 .int ∧ vp_in v5 (gx_len v1) ∧ (∀ x13 : Int64, x13 = (v3 + (((gx_a u (gx_r u v0 3) (v2 + v5).toNatClampNeg)).toInt64 + (((gx_a u (gx_r u v0 2) v2.toNatClampNeg)).toInt64 * ((gx_a u v1 v5.toNatClampNeg)).toInt64))) → (gx_isA (gx_r u v0 3) .int ∧ vp_in (v2 + v5) (gx_len (gx_r u v0 3)) ∧ ∀ u16 : gx_S, u16 = gx_pa u (gx_r u v0 3) (upd (gx_a u (gx_r u v0 3)) (v2 + v5).toNatClampNeg ((x13 &&& (65535 : Int64))).toInt32) → (∀ x17 : Int64, x17 = (x13 >>> ((16 : Int32).toInt64 &&& 63)) → (∀ x18 : Int32, x18 = v5 + 1 → J_X2_multiplyRestBy_34 E v0 v1 v2 x17 x18 u16))))))))))) : gx_Wc E 6 34 [(0, .ref (ex_ad E v0)), (1, .ref (ex_ad E v1)), (2, .int v2), (3, .long v3), (5, .int v5)] [] u := by
  refine gx_iload X (j := 4) dX2_multiplyRestBy_34 rfl ?_
  refine gx_bipush X (v := 32) dX2_multiplyRestBy_36 (by decide) ?_
  refine gx_icmp_ge X (tgt := 94) dX2_multiplyRestBy_38 (by decide) (fun c19 => ?_) (fun c19 => ?_)
  · replace h := h.1 c19
    refine gx_aload_n X (j := 0) dX2_multiplyRestBy_94 rfl rfl ?_
    obtain ⟨k1, h⟩ := h
    refine gx_get X k1 rfl iwX2 3 (by decide) mw_94 (v := .ref (ex_ad E (gx_r u v0 3))) rfl dX2_multiplyRestBy_95 ?_
    refine gx_iload_n X (j := 2) dX2_multiplyRestBy_98 rfl rfl ?_
    refine gx_bipush X (v := 32) dX2_multiplyRestBy_99 (by decide) ?_
    refine gx_iadd X dX2_multiplyRestBy_101 ?_
    refine gx_lload_n X (j := 3) dX2_multiplyRestBy_102 rfl rfl ?_
    refine gx_l2i X (v := (v3).toInt32) dX2_multiplyRestBy_103 rfl ?_
    obtain ⟨k2, h⟩ := h
    obtain ⟨k3, h⟩ := h
    refine gx_iast X k2 k3 dX2_multiplyRestBy_104 ?_
    refine gx_nams (fun u4 eu4 => ?_)
    replace h := h u4 eu4
    obtain ⟨x5, ex5⟩ : ∃ y : Int32, y = v2 + 1 := ⟨_, rfl⟩
    replace h := h x5 ex5
    refine gx_iinc X (v := x5) (lv' := [(2, .int x5), (0, .ref (ex_ad E v0)), (1, .ref (ex_ad E v1)), (3, .long v3), (5, .int v5)]) dX2_multiplyRestBy_105 (j := 2) rfl (by rw [ex5]; rfl) (by decide) rfl ?_
    refine gx_goto X (tgt := 23) dX2_multiplyRestBy_108 (by decide) ?_
    exact gx_sub [1, 2, 0] rfl h
  · replace h := h.2 c19
    refine gx_lload_n X (j := 3) dX2_multiplyRestBy_41 rfl rfl ?_
    refine gx_aload_n X (j := 0) dX2_multiplyRestBy_42 rfl rfl ?_
    obtain ⟨k6, h⟩ := h
    refine gx_get X k6 rfl iwX2 3 (by decide) mw_94 (v := .ref (ex_ad E (gx_r u v0 3))) rfl dX2_multiplyRestBy_43 ?_
    refine gx_iload_n X (j := 2) dX2_multiplyRestBy_46 rfl rfl ?_
    refine gx_iload X (j := 4) dX2_multiplyRestBy_47 rfl ?_
    refine gx_iadd X dX2_multiplyRestBy_49 ?_
    obtain ⟨k7, h⟩ := h
    obtain ⟨k8, h⟩ := h
    refine gx_iald X k7 k8 dX2_multiplyRestBy_50 ?_
    refine gx_i2l X (v := ((gx_a u (gx_r u v0 3) (v2 + v5).toNatClampNeg)).toInt64) dX2_multiplyRestBy_51 rfl ?_
    refine gx_aload_n X (j := 0) dX2_multiplyRestBy_52 rfl rfl ?_
    refine gx_get X k6 rfl iwX2 2 (by decide) mw_93 (v := .ref (ex_ad E (gx_r u v0 2))) rfl dX2_multiplyRestBy_53 ?_
    refine gx_iload_n X (j := 2) dX2_multiplyRestBy_56 rfl rfl ?_
    obtain ⟨k9, h⟩ := h
    obtain ⟨k10, h⟩ := h
    refine gx_iald X k9 k10 dX2_multiplyRestBy_57 ?_
    refine gx_i2l X (v := ((gx_a u (gx_r u v0 2) v2.toNatClampNeg)).toInt64) dX2_multiplyRestBy_58 rfl ?_
    refine gx_aload_n X (j := 1) dX2_multiplyRestBy_59 rfl rfl ?_
    refine gx_iload X (j := 4) dX2_multiplyRestBy_60 rfl ?_
    obtain ⟨k11, h⟩ := h
    obtain ⟨k12, h⟩ := h
    refine gx_iald X k11 k12 dX2_multiplyRestBy_62 ?_
    refine gx_i2l X (v := ((gx_a u v1 v5.toNatClampNeg)).toInt64) dX2_multiplyRestBy_63 rfl ?_
    refine gx_lmul X dX2_multiplyRestBy_64 ?_
    refine gx_ladd X dX2_multiplyRestBy_65 ?_
    refine gx_ladd X dX2_multiplyRestBy_66 ?_
    refine gx_naml (fun x13 ex13 => ?_)
    replace h := h x13 ex13
    refine gx_lstore_n X (lv' := [(3, .long x13), (0, .ref (ex_ad E v0)), (1, .ref (ex_ad E v1)), (2, .int v2), (5, .int v5)]) dX2_multiplyRestBy_67 rfl (by decide) rfl ?_
    refine gx_aload_n X (j := 1) dX2_multiplyRestBy_68 rfl rfl ?_
    refine gx_get X k6 rfl iwX2 3 (by decide) mw_94 (v := .ref (ex_ad E (gx_r u v0 3))) rfl dX2_multiplyRestBy_69 ?_
    refine gx_iload_n X (j := 3) dX2_multiplyRestBy_72 rfl rfl ?_
    refine gx_iload X (j := 4) dX2_multiplyRestBy_73 rfl ?_
    refine gx_iadd X dX2_multiplyRestBy_75 ?_
    refine gx_lload_n X (j := 0) dX2_multiplyRestBy_76 rfl rfl ?_
    refine gx_ldc2 X (v := 65535) mw_400 dX2_multiplyRestBy_77 ?_
    refine gx_land X dX2_multiplyRestBy_80 ?_
    refine gx_l2i X (v := ((x13 &&& (65535 : Int64))).toInt32) dX2_multiplyRestBy_81 rfl ?_
    obtain ⟨k14, h⟩ := h
    obtain ⟨k15, h⟩ := h
    refine gx_iast X k14 k15 dX2_multiplyRestBy_82 ?_
    refine gx_nams (fun u16 eu16 => ?_)
    replace h := h u16 eu16
    refine gx_lload_n X (j := 0) dX2_multiplyRestBy_83 rfl rfl ?_
    refine gx_bipush X (v := 16) dX2_multiplyRestBy_84 (by decide) ?_
    refine gx_lshr X (v := (x13 >>> ((16 : Int32).toInt64 &&& 63))) dX2_multiplyRestBy_86 rfl ?_
    refine gx_naml (fun x17 ex17 => ?_)
    replace h := h x17 ex17
    refine gx_lstore_n X (lv' := [(3, .long x17), (0, .ref (ex_ad E v0)), (1, .ref (ex_ad E v1)), (2, .int v2), (5, .int v5)]) dX2_multiplyRestBy_87 rfl (by decide) rfl ?_
    obtain ⟨x18, ex18⟩ : ∃ y : Int32, y = v5 + 1 := ⟨_, rfl⟩
    replace h := h x18 ex18
    refine gx_iinc X (v := x18) (lv' := [(5, .int x18), (3, .long x17), (0, .ref (ex_ad E v0)), (1, .ref (ex_ad E v1)), (2, .int v2)]) dX2_multiplyRestBy_88 (j := 4) rfl (by rw [ex18]; rfl) (by decide) rfl ?_
    refine gx_goto X (tgt := 34) dX2_multiplyRestBy_91 (by decide) ?_
    exact gx_sub [2, 3, 4, 1, 0] rfl h
-- PlainSeal$Modular.giveBack(I)J
theorem dX2_giveBack_0 : decode cX2_giveBack 0 = .ok (.lconst 0, 1) := by decide +kernel
theorem dX2_giveBack_1 : decode cX2_giveBack 1 = .ok (.lstore_n 2, 1) := by decide +kernel
theorem dX2_giveBack_2 : decode cX2_giveBack 2 = .ok (.iconst 0, 1) := by decide +kernel
theorem dX2_giveBack_3 : decode cX2_giveBack 3 = .ok (.istore 4, 2) := by decide +kernel
theorem dX2_giveBack_5 : decode cX2_giveBack 5 = .ok (.iload 4, 2) := by decide +kernel
theorem dX2_giveBack_7 : decode cX2_giveBack 7 = .ok (.bipush 32, 2) := by decide +kernel
theorem dX2_giveBack_9 : decode cX2_giveBack 9 = .ok (.if_icmp .ge 50, 3) := by decide +kernel
theorem dX2_giveBack_12 : decode cX2_giveBack 12 = .ok (.lload_n 2, 1) := by decide +kernel
theorem dX2_giveBack_13 : decode cX2_giveBack 13 = .ok (.aload_n 0, 1) := by decide +kernel
theorem dX2_giveBack_14 : decode cX2_giveBack 14 = .ok (.getfield 19, 3) := by decide +kernel
theorem dX2_giveBack_17 : decode cX2_giveBack 17 = .ok (.iload_n 1, 1) := by decide +kernel
theorem dX2_giveBack_18 : decode cX2_giveBack 18 = .ok (.iload 4, 2) := by decide +kernel
theorem dX2_giveBack_20 : decode cX2_giveBack 20 = .ok (.iadd, 1) := by decide +kernel
theorem dX2_giveBack_21 : decode cX2_giveBack 21 = .ok (.iaload, 1) := by decide +kernel
theorem dX2_giveBack_22 : decode cX2_giveBack 22 = .ok (.aload_n 0, 1) := by decide +kernel
theorem dX2_giveBack_23 : decode cX2_giveBack 23 = .ok (.getfield 13, 3) := by decide +kernel
theorem dX2_giveBack_26 : decode cX2_giveBack 26 = .ok (.iload 4, 2) := by decide +kernel
theorem dX2_giveBack_28 : decode cX2_giveBack 28 = .ok (.iaload, 1) := by decide +kernel
theorem dX2_giveBack_29 : decode cX2_giveBack 29 = .ok (.iadd, 1) := by decide +kernel
theorem dX2_giveBack_30 : decode cX2_giveBack 30 = .ok (.i2l, 1) := by decide +kernel
theorem dX2_giveBack_31 : decode cX2_giveBack 31 = .ok (.ladd, 1) := by decide +kernel
theorem dX2_giveBack_32 : decode cX2_giveBack 32 = .ok (.lstore_n 2, 1) := by decide +kernel
theorem dX2_giveBack_33 : decode cX2_giveBack 33 = .ok (.aload_n 0, 1) := by decide +kernel
theorem dX2_giveBack_34 : decode cX2_giveBack 34 = .ok (.getfield 19, 3) := by decide +kernel
theorem dX2_giveBack_37 : decode cX2_giveBack 37 = .ok (.iload_n 1, 1) := by decide +kernel
theorem dX2_giveBack_38 : decode cX2_giveBack 38 = .ok (.iload 4, 2) := by decide +kernel
theorem dX2_giveBack_40 : decode cX2_giveBack 40 = .ok (.iadd, 1) := by decide +kernel
theorem dX2_giveBack_41 : decode cX2_giveBack 41 = .ok (.lload_n 2, 1) := by decide +kernel
theorem dX2_giveBack_42 : decode cX2_giveBack 42 = .ok (.ldc2_w 53, 3) := by decide +kernel
theorem dX2_giveBack_45 : decode cX2_giveBack 45 = .ok (.land, 1) := by decide +kernel
theorem dX2_giveBack_46 : decode cX2_giveBack 46 = .ok (.l2i, 1) := by decide +kernel
theorem dX2_giveBack_47 : decode cX2_giveBack 47 = .ok (.iastore, 1) := by decide +kernel
theorem dX2_giveBack_48 : decode cX2_giveBack 48 = .ok (.lload_n 2, 1) := by decide +kernel
theorem dX2_giveBack_49 : decode cX2_giveBack 49 = .ok (.bipush 16, 2) := by decide +kernel
theorem dX2_giveBack_51 : decode cX2_giveBack 51 = .ok (.lshr, 1) := by decide +kernel
theorem dX2_giveBack_52 : decode cX2_giveBack 52 = .ok (.lstore_n 2, 1) := by decide +kernel
theorem dX2_giveBack_53 : decode cX2_giveBack 53 = .ok (.iinc 4 1, 3) := by decide +kernel
theorem dX2_giveBack_56 : decode cX2_giveBack 56 = .ok (.goto (-51), 3) := by decide +kernel
theorem dX2_giveBack_59 : decode cX2_giveBack 59 = .ok (.lload_n 2, 1) := by decide +kernel
theorem dX2_giveBack_60 : decode cX2_giveBack 60 = .ok (.lreturn, 1) := by decide +kernel
theorem hyX2_giveBack : yX2_giveBack.cls ≠ "java/lang/invoke/MethodHandle" ∧ yX2_giveBack.cls ≠ "java/lang/invoke/VarHandle" ∧ (parseMethodDescriptor yX2_giveBack.desc).map (fun d => d.parameters.length) = some 1 := by decide +kernel
abbrev J_X2_giveBack_5 (E : gx_E) (v0 : Nat) (v1 : Int32) (v2 : Int64) (v4 : Int32) (u : gx_S) : Prop := gx_Wc E 5 5 [(0, .ref (ex_ad E v0)), (1, .int v1), (2, .long v2), (4, .int v4)] [] u
set_option maxHeartbeats 4000000 in
set_option maxRecDepth 100000 in
theorem w_X2_giveBack_0 {E : gx_E} (X : gx_X E cX2_giveBack 5 RX2 (some .long)) (hd : 0 ≤ ex_d E) {post : Int64 → gx_S → Prop} (hQ : ex_Q E = va_Ql post (gx_B (ex_Z E)) (gx_A (ex_Z E))) {u : gx_S} {v0 : Nat} {v1 : Int32} (h : J_X2_giveBack_5 E v0 v1 (0 : Int64) (0 : Int32) u) : gx_Wc E 5 0 [(0, .ref (ex_ad E v0)), (1, .int v1)] [] u := by
  refine gx_lconst X (v := 0) dX2_giveBack_0 (by decide) ?_
  refine gx_lstore_n X (lv' := [(2, .long (0 : Int64)), (0, .ref (ex_ad E v0)), (1, .int v1)]) dX2_giveBack_1 rfl (by decide) rfl ?_
  refine gx_iconst X (v := 0) dX2_giveBack_2 (by decide) ?_
  refine gx_istore X (lv' := [(4, .int (0 : Int32)), (2, .long (0 : Int64)), (0, .ref (ex_ad E v0)), (1, .int v1)]) dX2_giveBack_3 (by decide) rfl ?_
  exact gx_sub [2, 3, 1, 0] rfl h
set_option maxHeartbeats 4000000 in
set_option maxRecDepth 100000 in
theorem w_X2_giveBack_5 {E : gx_E} (X : gx_X E cX2_giveBack 5 RX2 (some .long)) (hd : 0 ≤ ex_d E) {post : Int64 → gx_S → Prop} (hQ : ex_Q E = va_Ql post (gx_B (ex_Z E)) (gx_A (ex_Z E))) {u : gx_S} {v0 : Nat} {v1 : Int32} {v2 : Int64} {v4 : Int32} (h : (((32 : Int32) ≤ v4 → post v2 u) ∧ (¬ (32 : Int32) ≤ v4 → (gx_isO v0 2 ∧ (gx_isR (gx_r u v0 3) .int ∧ vp_in (v1 + v4) (gx_len (gx_r u v0 3)) ∧ (gx_isR (gx_r u v0 1) .int ∧ vp_in v4 (gx_len (gx_r u v0 1)) ∧ (∀ x6 : Int64, x6 = (v2 + (((gx_a u (gx_r u v0 3) (v1 + v4).toNatClampNeg) + (gx_a u (gx_r u v0 1) v4.toNatClampNeg))).toInt64) → (gx_isA (gx_r u v0 3) .int ∧ vp_in (v1 + v4) (gx_len (gx_r u v0 3)) ∧ ∀ u9 : gx_S, u9 = gx_pa u (gx_r u v0 3) (upd (gx_a u (gx_r u v0 3)) (v1 + v4).toNatClampNeg ((x6 &&& (65535 : Int64))).toInt32) → (∀ x10 : Int64, x10 = (x6 >>> ((16 : Int32).toInt64 &&& 63)) → (∀ x11 : Int32, x11 = v4 + 1 → J_X2_giveBack_5 E v0 v1 x10 x11 u9)))))))))) : gx_Wc E 5 5 [(0, .ref (ex_ad E v0)), (1, .int v1), (2, .long v2), (4, .int v4)] [] u := by
  refine gx_iload X (j := 3) dX2_giveBack_5 rfl ?_
  refine gx_bipush X (v := 32) dX2_giveBack_7 (by decide) ?_
  refine gx_icmp_ge X (tgt := 59) dX2_giveBack_9 (by decide) (fun c12 => ?_) (fun c12 => ?_)
  · replace h := h.1 c12
    refine gx_lload_n X (j := 2) dX2_giveBack_59 rfl rfl ?_
    exact gx_lret X hQ h dX2_giveBack_60
  · replace h := h.2 c12
    refine gx_lload_n X (j := 2) dX2_giveBack_12 rfl rfl ?_
    refine gx_aload_n X (j := 0) dX2_giveBack_13 rfl rfl ?_
    obtain ⟨k1, h⟩ := h
    refine gx_get X k1 rfl iwX2 3 (by decide) mw_94 (v := .ref (ex_ad E (gx_r u v0 3))) rfl dX2_giveBack_14 ?_
    refine gx_iload_n X (j := 1) dX2_giveBack_17 rfl rfl ?_
    refine gx_iload X (j := 3) dX2_giveBack_18 rfl ?_
    refine gx_iadd X dX2_giveBack_20 ?_
    obtain ⟨k2, h⟩ := h
    obtain ⟨k3, h⟩ := h
    refine gx_iald X k2 k3 dX2_giveBack_21 ?_
    refine gx_aload_n X (j := 0) dX2_giveBack_22 rfl rfl ?_
    refine gx_get X k1 rfl iwX2 1 (by decide) mw_92 (v := .ref (ex_ad E (gx_r u v0 1))) rfl dX2_giveBack_23 ?_
    refine gx_iload X (j := 3) dX2_giveBack_26 rfl ?_
    obtain ⟨k4, h⟩ := h
    obtain ⟨k5, h⟩ := h
    refine gx_iald X k4 k5 dX2_giveBack_28 ?_
    refine gx_iadd X dX2_giveBack_29 ?_
    refine gx_i2l X (v := (((gx_a u (gx_r u v0 3) (v1 + v4).toNatClampNeg) + (gx_a u (gx_r u v0 1) v4.toNatClampNeg))).toInt64) dX2_giveBack_30 rfl ?_
    refine gx_ladd X dX2_giveBack_31 ?_
    refine gx_naml (fun x6 ex6 => ?_)
    replace h := h x6 ex6
    refine gx_lstore_n X (lv' := [(2, .long x6), (0, .ref (ex_ad E v0)), (1, .int v1), (4, .int v4)]) dX2_giveBack_32 rfl (by decide) rfl ?_
    refine gx_aload_n X (j := 1) dX2_giveBack_33 rfl rfl ?_
    refine gx_get X k1 rfl iwX2 3 (by decide) mw_94 (v := .ref (ex_ad E (gx_r u v0 3))) rfl dX2_giveBack_34 ?_
    refine gx_iload_n X (j := 2) dX2_giveBack_37 rfl rfl ?_
    refine gx_iload X (j := 3) dX2_giveBack_38 rfl ?_
    refine gx_iadd X dX2_giveBack_40 ?_
    refine gx_lload_n X (j := 0) dX2_giveBack_41 rfl rfl ?_
    refine gx_ldc2 X (v := 65535) mw_400 dX2_giveBack_42 ?_
    refine gx_land X dX2_giveBack_45 ?_
    refine gx_l2i X (v := ((x6 &&& (65535 : Int64))).toInt32) dX2_giveBack_46 rfl ?_
    obtain ⟨k7, h⟩ := h
    obtain ⟨k8, h⟩ := h
    refine gx_iast X k7 k8 dX2_giveBack_47 ?_
    refine gx_nams (fun u9 eu9 => ?_)
    replace h := h u9 eu9
    refine gx_lload_n X (j := 0) dX2_giveBack_48 rfl rfl ?_
    refine gx_bipush X (v := 16) dX2_giveBack_49 (by decide) ?_
    refine gx_lshr X (v := (x6 >>> ((16 : Int32).toInt64 &&& 63))) dX2_giveBack_51 rfl ?_
    refine gx_naml (fun x10 ex10 => ?_)
    replace h := h x10 ex10
    refine gx_lstore_n X (lv' := [(2, .long x10), (0, .ref (ex_ad E v0)), (1, .int v1), (4, .int v4)]) dX2_giveBack_52 rfl (by decide) rfl ?_
    obtain ⟨x11, ex11⟩ : ∃ y : Int32, y = v4 + 1 := ⟨_, rfl⟩
    replace h := h x11 ex11
    refine gx_iinc X (v := x11) (lv' := [(4, .int x11), (2, .long x10), (0, .ref (ex_ad E v0)), (1, .int v1)]) dX2_giveBack_53 (j := 3) rfl (by rw [ex11]; rfl) (by decide) rfl ?_
    refine gx_goto X (tgt := 5) dX2_giveBack_56 (by decide) ?_
    exact gx_sub [2, 3, 1, 0] rfl h
-- PlainSeal$Modular.guessedDigit(I)J
theorem dX2_guessedDigit_0 : decode cX2_guessedDigit 0 = .ok (.aload_n 0, 1) := by decide +kernel
theorem dX2_guessedDigit_1 : decode cX2_guessedDigit 1 = .ok (.getfield 19, 3) := by decide +kernel
theorem dX2_guessedDigit_4 : decode cX2_guessedDigit 4 = .ok (.iload_n 1, 1) := by decide +kernel
theorem dX2_guessedDigit_5 : decode cX2_guessedDigit 5 = .ok (.bipush 32, 2) := by decide +kernel
theorem dX2_guessedDigit_7 : decode cX2_guessedDigit 7 = .ok (.iadd, 1) := by decide +kernel
theorem dX2_guessedDigit_8 : decode cX2_guessedDigit 8 = .ok (.iaload, 1) := by decide +kernel
theorem dX2_guessedDigit_9 : decode cX2_guessedDigit 9 = .ok (.i2l, 1) := by decide +kernel
theorem dX2_guessedDigit_10 : decode cX2_guessedDigit 10 = .ok (.bipush 16, 2) := by decide +kernel
theorem dX2_guessedDigit_12 : decode cX2_guessedDigit 12 = .ok (.lshl, 1) := by decide +kernel
theorem dX2_guessedDigit_13 : decode cX2_guessedDigit 13 = .ok (.aload_n 0, 1) := by decide +kernel
theorem dX2_guessedDigit_14 : decode cX2_guessedDigit 14 = .ok (.getfield 19, 3) := by decide +kernel
theorem dX2_guessedDigit_17 : decode cX2_guessedDigit 17 = .ok (.iload_n 1, 1) := by decide +kernel
theorem dX2_guessedDigit_18 : decode cX2_guessedDigit 18 = .ok (.bipush 32, 2) := by decide +kernel
theorem dX2_guessedDigit_20 : decode cX2_guessedDigit 20 = .ok (.iadd, 1) := by decide +kernel
theorem dX2_guessedDigit_21 : decode cX2_guessedDigit 21 = .ok (.iconst 1, 1) := by decide +kernel
theorem dX2_guessedDigit_22 : decode cX2_guessedDigit 22 = .ok (.isub, 1) := by decide +kernel
theorem dX2_guessedDigit_23 : decode cX2_guessedDigit 23 = .ok (.iaload, 1) := by decide +kernel
theorem dX2_guessedDigit_24 : decode cX2_guessedDigit 24 = .ok (.i2l, 1) := by decide +kernel
theorem dX2_guessedDigit_25 : decode cX2_guessedDigit 25 = .ok (.lor, 1) := by decide +kernel
theorem dX2_guessedDigit_26 : decode cX2_guessedDigit 26 = .ok (.lstore_n 2, 1) := by decide +kernel
theorem dX2_guessedDigit_27 : decode cX2_guessedDigit 27 = .ok (.lload_n 2, 1) := by decide +kernel
theorem dX2_guessedDigit_28 : decode cX2_guessedDigit 28 = .ok (.aload_n 0, 1) := by decide +kernel
theorem dX2_guessedDigit_29 : decode cX2_guessedDigit 29 = .ok (.getfield 13, 3) := by decide +kernel
theorem dX2_guessedDigit_32 : decode cX2_guessedDigit 32 = .ok (.bipush 31, 2) := by decide +kernel
theorem dX2_guessedDigit_34 : decode cX2_guessedDigit 34 = .ok (.iaload, 1) := by decide +kernel
theorem dX2_guessedDigit_35 : decode cX2_guessedDigit 35 = .ok (.ldc 63, 2) := by decide +kernel
theorem dX2_guessedDigit_37 : decode cX2_guessedDigit 37 = .ok (.ior, 1) := by decide +kernel
theorem dX2_guessedDigit_38 : decode cX2_guessedDigit 38 = .ok (.i2l, 1) := by decide +kernel
theorem dX2_guessedDigit_39 : decode cX2_guessedDigit 39 = .ok (.ldiv, 1) := by decide +kernel
theorem dX2_guessedDigit_40 : decode cX2_guessedDigit 40 = .ok (.lstore 4, 2) := by decide +kernel
theorem dX2_guessedDigit_42 : decode cX2_guessedDigit 42 = .ok (.lload 4, 2) := by decide +kernel
theorem dX2_guessedDigit_44 : decode cX2_guessedDigit 44 = .ok (.ldc2_w 53, 3) := by decide +kernel
theorem dX2_guessedDigit_47 : decode cX2_guessedDigit 47 = .ok (.invokestatic 64, 3) := by decide +kernel
theorem dX2_guessedDigit_50 : decode cX2_guessedDigit 50 = .ok (.lreturn, 1) := by decide +kernel
theorem hyX2_guessedDigit : yX2_guessedDigit.cls ≠ "java/lang/invoke/MethodHandle" ∧ yX2_guessedDigit.cls ≠ "java/lang/invoke/VarHandle" ∧ (parseMethodDescriptor yX2_guessedDigit.desc).map (fun d => d.parameters.length) = some 1 := by decide +kernel
def S_X2_guessedDigit (u : gx_S) (v0 : Nat) (v1 : Int32) (post : Int64 → gx_S → Prop) : Prop := (gx_isO v0 2 ∧ (gx_isR (gx_r u v0 3) .int ∧ vp_in (v1 + (32 : Int32)) (gx_len (gx_r u v0 3)) ∧ (vp_in ((v1 + (32 : Int32)) - (1 : Int32)) (gx_len (gx_r u v0 3)) ∧ (∀ x5 : Int64, x5 = ((((gx_a u (gx_r u v0 3) (v1 + (32 : Int32)).toNatClampNeg)).toInt64 <<< ((16 : Int32).toInt64 &&& 63)) ||| ((gx_a u (gx_r u v0 3) ((v1 + (32 : Int32)) - (1 : Int32)).toNatClampNeg)).toInt64) → (gx_isR (gx_r u v0 1) .int ∧ vp_in (31 : Int32) (gx_len (gx_r u v0 1)) ∧ (¬ (((gx_a u (gx_r u v0 1) (31 : Int32).toNatClampNeg) ||| (32768 : Int32))).toInt64 = 0 ∧ (∀ x9 : Int64, x9 = (x5 / (((gx_a u (gx_r u v0 1) (31 : Int32).toNatClampNeg) ||| (32768 : Int32))).toInt64) → post (if (65535 : Int64) < x9 then (65535 : Int64) else x9) u)))))))
set_option maxHeartbeats 4000000 in
set_option maxRecDepth 100000 in
theorem w_X2_guessedDigit {E : gx_E} (X : gx_X E cX2_guessedDigit 6 RX2 (some .long)) (hd : 1 ≤ ex_d E) {post : Int64 → gx_S → Prop} (hQ : ex_Q E = va_Ql post (gx_B (ex_Z E)) (gx_A (ex_Z E))) {u : gx_S} {v0 : Nat} {v1 : Int32} (h : S_X2_guessedDigit u v0 v1 post) : gx_Wc E 6 0 [(0, .ref (ex_ad E v0)), (1, .int v1)] [] u := by
  unfold S_X2_guessedDigit at h
  refine gx_aload_n X (j := 0) dX2_guessedDigit_0 rfl rfl ?_
  obtain ⟨k1, h⟩ := h
  refine gx_get X k1 rfl iwX2 3 (by decide) mw_94 (v := .ref (ex_ad E (gx_r u v0 3))) rfl dX2_guessedDigit_1 ?_
  refine gx_iload_n X (j := 1) dX2_guessedDigit_4 rfl rfl ?_
  refine gx_bipush X (v := 32) dX2_guessedDigit_5 (by decide) ?_
  refine gx_iadd X dX2_guessedDigit_7 ?_
  obtain ⟨k2, h⟩ := h
  obtain ⟨k3, h⟩ := h
  refine gx_iald X k2 k3 dX2_guessedDigit_8 ?_
  refine gx_i2l X (v := ((gx_a u (gx_r u v0 3) (v1 + (32 : Int32)).toNatClampNeg)).toInt64) dX2_guessedDigit_9 rfl ?_
  refine gx_bipush X (v := 16) dX2_guessedDigit_10 (by decide) ?_
  refine gx_lshl X (v := (((gx_a u (gx_r u v0 3) (v1 + (32 : Int32)).toNatClampNeg)).toInt64 <<< ((16 : Int32).toInt64 &&& 63))) dX2_guessedDigit_12 rfl ?_
  refine gx_aload_n X (j := 0) dX2_guessedDigit_13 rfl rfl ?_
  refine gx_get X k1 rfl iwX2 3 (by decide) mw_94 (v := .ref (ex_ad E (gx_r u v0 3))) rfl dX2_guessedDigit_14 ?_
  refine gx_iload_n X (j := 1) dX2_guessedDigit_17 rfl rfl ?_
  refine gx_bipush X (v := 32) dX2_guessedDigit_18 (by decide) ?_
  refine gx_iadd X dX2_guessedDigit_20 ?_
  refine gx_iconst X (v := 1) dX2_guessedDigit_21 (by decide) ?_
  refine gx_isub X dX2_guessedDigit_22 ?_
  obtain ⟨k4, h⟩ := h
  refine gx_iald X k2 k4 dX2_guessedDigit_23 ?_
  refine gx_i2l X (v := ((gx_a u (gx_r u v0 3) ((v1 + (32 : Int32)) - (1 : Int32)).toNatClampNeg)).toInt64) dX2_guessedDigit_24 rfl ?_
  refine gx_lor X dX2_guessedDigit_25 ?_
  refine gx_naml (fun x5 ex5 => ?_)
  replace h := h x5 ex5
  refine gx_lstore_n X (lv' := [(2, .long x5), (0, .ref (ex_ad E v0)), (1, .int v1)]) dX2_guessedDigit_26 rfl (by decide) rfl ?_
  refine gx_lload_n X (j := 0) dX2_guessedDigit_27 rfl rfl ?_
  refine gx_aload_n X (j := 1) dX2_guessedDigit_28 rfl rfl ?_
  refine gx_get X k1 rfl iwX2 1 (by decide) mw_92 (v := .ref (ex_ad E (gx_r u v0 1))) rfl dX2_guessedDigit_29 ?_
  refine gx_bipush X (v := 31) dX2_guessedDigit_32 (by decide) ?_
  obtain ⟨k6, h⟩ := h
  obtain ⟨k7, h⟩ := h
  refine gx_iald X k6 k7 dX2_guessedDigit_34 ?_
  refine gx_ldc X (v := 32768) mw_399 dX2_guessedDigit_35 ?_
  refine gx_ior X dX2_guessedDigit_37 ?_
  refine gx_i2l X (v := (((gx_a u (gx_r u v0 1) (31 : Int32).toNatClampNeg) ||| (32768 : Int32))).toInt64) dX2_guessedDigit_38 rfl ?_
  obtain ⟨k8, h⟩ := h
  refine gx_ldiv X dX2_guessedDigit_39 k8 ?_
  refine gx_naml (fun x9 ex9 => ?_)
  replace h := h x9 ex9
  refine gx_lstore X (lv' := [(4, .long x9), (2, .long x5), (0, .ref (ex_ad E v0)), (1, .int v1)]) dX2_guessedDigit_40 (by decide) rfl ?_
  refine gx_lload X (j := 0) dX2_guessedDigit_42 rfl ?_
  refine gx_ldc2 X (v := 65535) mw_400 dX2_guessedDigit_44 ?_
  refine gx_mminl X (Nat.le_trans (by decide) hd) mw_401 mw_402 mw_11 mw_403 (Nat.le_of_ble_eq_true rfl) dX2_guessedDigit_47 ?_
  exact gx_lret X hQ h dX2_guessedDigit_50
theorem c_X2_guessedDigit {l : Launch} {Z : gx_Z} {u : gx_S} {v0 : Nat} {v1 : Int32} {post : Int64 → gx_S → Prop} (h : S_X2_guessedDigit u v0 v1 post) : Met l yX2_guessedDigit (Cond.code yX2_guessedDigit cX2_guessedDigit 6 (some .long) :: gx_TB) (gx_rm 1) (gx_Pre Z u [.ref (Z.2.1 v0), .int v1]) (va_Ql post (gx_B Z) (gx_A Z)) 0 0 (gx_A Z) := by
  refine gx_met (by decide +kernel) (Nat.le_of_ble_eq_true rfl) ?_
  intro E X hZ hQ hD hL
  subst hZ
  exact w_X2_guessedDigit X (Nat.le_of_eq hD.symm) hQ h
/-- digit i of the 64 bytes of T from p on -/
def dgT (T : List Nat) (p i : Nat) : Int32 := nI (ch T (p + 62 - 2 * i) * 256 + ch T (p + 63 - 2 * i))
def S_X2_takeNumber (u : gx_S) (v0 : Nat) (v1 : Int32) (v2 : Nat) (post : gx_S → Prop) : Prop := ∃ (T : List Nat) (p : Nat), byL u v0 T ∧ p + 64 ≤ T.length ∧ v1 = nI p ∧ gx_isA v2 .int ∧ gx_len v2 = 32 ∧ gx_r u v0 0 ≠ v2 ∧ ∀ u', exA [v2] u u' → (∀ i, i < 32 → gx_a u' v2 i = dgT T p i) → post u'
theorem lp_X2_takeNumber {E : gx_E} (X : gx_X E cX2_takeNumber 5 RX2 none) (hd : 1 ≤ ex_d E) {post : gx_S → Prop} (hQ : ex_Q E = va_Qv post (gx_B (ex_Z E)) (gx_A (ex_Z E))) {v0 v2 p : Nat} {v1 : Int32} {T : List Nat} {u0 : gx_S} (hp : p + 64 ≤ T.length) (ha : gx_isA v2 .int) (hl : gx_len v2 = 32) (hh : ∀ u', exA [v2] u0 u' → (∀ i, i < 32 → gx_a u' v2 i = dgT T p i) → post u') :
    ∀ (n k : Nat) (u : gx_S), 32 - k = n → k ≤ 32 → byL u v0 T → gx_r u v0 0 ≠ v2 → exA [v2] u0 u → (∀ i, i < k → gx_a u v2 i = dgT T p i) → J_X2_takeNumber_10 E v0 v1 v2 (nI (p + 63)) (nI k) u := by
  intro n
  induction n with
  | zero =>
    intro k u hn hk hT hr hx hg
    exact w_X2_takeNumber_10 X hd hQ ⟨fun _ => hh u hx (fun i hi => hg i (by omega)), fun q => absurd (nI_le (a := 32) (by omega) (by omega)) q⟩
  | succ n ih =>
    intro k u hn hk hT hr hx hg
    have hT2 := hT.2.2.2.2.1
    have c1 : ch T (p + 62 - 2 * k) < 256 := ch_lt hT.2.2.2.2.2.1 (by omega)
    have c2 : ch T (p + 63 - 2 * k) < 256 := ch_lt hT.2.2.2.2.2.1 (by omega)
    refine w_X2_takeNumber_10 X hd hQ ⟨fun q => absurd q (nI_ge (b := 32) (by omega) (by omega)), fun _ => ?_⟩
    rw [show (2 : Int32) = nI 2 from rfl, pk_mul, pk_sub (by omega), nsub (a := p + 63 - 2 * k) (b := 1) (B := 1) (by omega) rfl, show p + 63 - 2 * k - 1 = p + 62 - 2 * k by omega]
    refine ⟨hT.1, i_X0_at hT (by omega) (i_X0_at hT (by omega) ⟨ha, by rw [hl]; exact vp_in_nI (by omega) (by omega), ?_⟩)⟩
    rw [cI_lo c1, cI_lo c2, shl8_or (by omega) c2]
    rintro u8 rfl x9 rfl
    rw [nI_1, nI_clamp (by omega)]
    refine ih (k + 1) _ (by omega) (by omega) (byL_pa hT hr) hr (exA_tr hx (exA_pa _ _ (by simp))) (fun i hi => ?_)
    rw [gx_a_pa, if_pos rfl]
    by_cases e : i = k
    · rw [e, pk_us]; rfl
    · rw [pk_un e]; exact hg i (by omega)
theorem w_X2_takeNumber {E : gx_E} (X : gx_X E cX2_takeNumber 5 RX2 none) (hd : 1 ≤ ex_d E) {post : gx_S → Prop} (hQ : ex_Q E = va_Qv post (gx_B (ex_Z E)) (gx_A (ex_Z E))) {u : gx_S} {v0 : Nat} {v1 : Int32} {v2 : Nat} (h : S_X2_takeNumber u v0 v1 v2 post) : gx_Wc E 5 0 [(0, .ref (ex_ad E v0)), (1, .int v1), (2, .ref (ex_ad E v2))] [] u := by
  obtain ⟨T, p, hT, hp, rfl, ha, hl, hr, hh⟩ := h
  have hT2 := hT.2.2.2.2.1
  refine w_X2_takeNumber_0 X hd hQ ?_
  intro x1 e1
  rw [show (64 : Int32) = nI 64 from rfl, nI_add, nsub (a := p + 64) (b := 1) (B := 1) (by omega) rfl, show p + 64 - 1 = p + 63 by omega] at e1
  subst e1
  exact lp_X2_takeNumber X hd hQ hp ha hl hh 32 0 u (by omega) (by omega) hT hr (exA_rf _ _) (fun i hi => by omega)
theorem c_X2_takeNumber {l : Launch} {Z : gx_Z} {u : gx_S} {v0 : Nat} {v1 : Int32} {v2 : Nat} {post : gx_S → Prop} (h : S_X2_takeNumber u v0 v1 v2 post) : Met l yX2_takeNumber (Cond.code yX2_takeNumber cX2_takeNumber 5 none :: gx_TB) (gx_rm 1) (gx_Pre Z u [.ref (Z.2.1 v0), .int v1, .ref (Z.2.1 v2)]) (va_Qv post (gx_B Z) (gx_A Z)) 0 0 (gx_A Z) := by
  refine gx_met (by decide +kernel) (Nat.le_of_ble_eq_true rfl) ?_
  intro E X hZ hQ hD hL
  subst hZ
  exact w_X2_takeNumber X (Nat.le_of_eq hD.symm) hQ h
-- multiplyRestBy
theorem isA19 : gx_isA 19 .int := ⟨by decide, rfl⟩
theorem isA20 : gx_isA 20 .int := ⟨by decide, rfl⟩
theorem isA18 : gx_isA 18 .int := ⟨by decide, rfl⟩
theorem isA17 : gx_isA 17 .int := ⟨by decide, rfl⟩
theorem in20 {i : Nat} (h : i < 64) : vp_in (nI i) (gx_len 20) := vp_in_nI (N := 64) h (by omega)
theorem in32 {a i : Nat} (ha : gx_len a = 32) (h : i < 32) : vp_in (nI i) (gx_len a) := by rw [ha]; exact vp_in_nI h (by omega)
def S_X2_multiplyRestBy (u : gx_S) (v0 v1 : Nat) (post : gx_S → Prop) : Prop := v0 = 8 ∧ cfix u ∧ gx_isR v1 .int ∧ gx_len v1 = 32 ∧ v1 ≠ 20 ∧ okD (gx_a u 19) 32 ∧ okD (gx_a u v1) 32 ∧ ∀ u', exA [20] u u' → okD (gx_a u' 20) 64 → vA (gx_a u' 20) 64 = vA (gx_a u 19) 32 * vA (gx_a u v1) 32 → post u'
theorem lp3_X2_multiplyRestBy {E : gx_E} (X : gx_X E cX2_multiplyRestBy 6 RX2 none) (hd : 0 ≤ ex_d E) {post : gx_S → Prop} (hQ : ex_Q E = va_Qv post (gx_B (ex_Z E)) (gx_A (ex_Z E))) {v1 i : Nat} {R O P0 : Nat → Int32} {u0 : gx_S} (h1 : gx_isR v1 .int) (h2 : gx_len v1 = 32) (h3 : v1 ≠ 20) (hi : i < 32) (hR : okD R 32) (hO : okD O 32)
    (next : ∀ u, exA [20] u0 u → okD (gx_a u 20) (i + 33) → vA (gx_a u 20) (i + 33) = vA P0 (i + 32) + dv (R i) * 65536 ^ i * vA O 32 → J_X2_multiplyRestBy_23 E 8 v1 (nI (i + 1)) u) (hf0 : cfix u0) (hR0 : ∀ j, j < 32 → gx_a u0 19 j = R j) (hO0 : ∀ j, j < 32 → gx_a u0 v1 j = O j) :
    ∀ (n j c : Nat) (u : gx_S), 32 - j = n → j ≤ 32 → c < 65536 → exA [20] u0 u → okD (gx_a u 20) (i + 32) → vA (gx_a u 20) (i + 32) + c * 65536 ^ (i + j) = vA P0 (i + 32) + dv (R i) * 65536 ^ i * vA O j → J_X2_multiplyRestBy_34 E 8 v1 (nI i) (lz c) (nI j) u := by
  intro n
  induction n with
  | zero =>
    intro j c u hn hj hc hx hP he
    have ej : j = 32 := by omega
    subst ej
    have e3 : gx_r u 8 3 = 20 := (exA_r hx 8 3).trans (hf0 8 3 (by decide))
    refine w_X2_multiplyRestBy_34 X hd hQ ⟨fun _ => ?_, fun q => absurd (nI_le (a := 32) (by omega) (by omega)) q⟩
    rw [e3, show (32 : Int32) = nI 32 from rfl, nI_add]
    refine ⟨isO_x 8 2 (by decide), isA20, in20 (by omega), ?_⟩
    rintro u4 rfl x5 rfl
    rw [nI_1, nI_clamp (by omega), lz_i]
    refine next _ (exA_tr hx (exA_pa _ _ (by simp))) ?_ ?_
    · rw [gx_a_pa, if_pos rfl]
      intro k hk
      by_cases e : k = i + 32
      · rw [e, pk_us, dv_nI (by omega)]; exact hc
      · rw [pk_un e]; exact hP k (by omega)
    · rw [gx_a_pa, if_pos rfl, show i + 33 = (i + 32) + 1 by omega, vA, vA_ge _ (Nat.le_refl _), pk_us, dv_nI (by omega)]
      exact he
  | succ n ih =>
    intro j c u hn hj hc hx hP he
    have e3 : gx_r u 8 3 = 20 := (exA_r hx 8 3).trans (hf0 8 3 (by decide))
    have e2 : gx_r u 8 2 = 19 := (exA_r hx 8 2).trans (hf0 8 2 (by decide))
    have eR : gx_a u 19 i = R i := by rw [hx.2.2.2 19 (by decide)]; exact hR0 i hi
    have eO : gx_a u v1 j = O j := by rw [hx.2.2.2 v1 (by simpa using h3)]; exact hO0 j (by omega)
    have bR := hR i hi
    have bO := hO j (by omega)
    have bP := hP (i + j) (by omega)
    have bM : dv (R i) * dv (O j) ≤ 65535 * 65535 := Nat.mul_le_mul (by omega) (by omega)
    refine w_X2_multiplyRestBy_34 X hd hQ ⟨fun q => absurd q (nI_ge (b := 32) (by omega) (by omega)), fun _ => ?_⟩
    rw [e3, e2, nI_add, nI_clamp (by omega), nI_clamp (by omega), nI_clamp (by omega), eR, eO]
    refine ⟨isO_x 8 2 (by decide), isA20.r, in20 (by omega), isA19.r, in32 rfl hi, h1, in32 h2 (by omega), ?_⟩
    intro x13 e13
    rw [lz_dv bP, lz_dv bR, lz_dv bO, lz_mul, lz_add, lz_add, show ((c : Int) + ((dv (gx_a u 20 (i + j)) : Int) + (dv (R i) : Int) * (dv (O j) : Int))) = ((c + dv (gx_a u 20 (i + j)) + dv (R i) * dv (O j) : Nat) : Int) by push_cast; omega] at e13
    generalize hxx : c + dv (gx_a u 20 (i + j)) + dv (R i) * dv (O j) = x at e13
    have hxb : x < 4294967296 := by omega
    refine ⟨isA20, in20 (by omega), ?_⟩
    rintro u16 rfl x17 e17 x18 rfl
    rw [nI_1]
    subst e13
    rw [lz_shr (by omega) (by omega), show ((x : Int) / 65536) = ((x / 65536 : Nat) : Int) by omega] at e17
    subst e17
    rw [lz_and, show ((x : Int) % 65536).toNat = x % 65536 by omega]
    refine ih (j + 1) (x / 65536) _ (by omega) (by omega) (by omega) (exA_tr hx (exA_pa _ _ (by simp))) ?_ ?_
    · rw [gx_a_pa, if_pos rfl]; exact okD_upd hP (by omega)
    · rw [gx_a_pa, if_pos rfl]
      have hu := vA_upd (a := gx_a u 20) (k := i + j) (x := nI (x % 65536)) (i + 32) (by omega)
      rw [dv_nI (by omega)] at hu
      have hs := sp_mul x (65536 ^ (i + j))
      rw [show i + (j + 1) = (i + j) + 1 by omega, pow_s, vA_s O j, Nat.mul_add]
      have e1 : x * 65536 ^ (i + j) = c * 65536 ^ (i + j) + dv (gx_a u 20 (i + j)) * 65536 ^ (i + j) + dv (R i) * dv (O j) * 65536 ^ (i + j) := by rw [← hxx, Nat.add_mul, Nat.add_mul]
      have e2 : dv (R i) * 65536 ^ i * (dv (O j) * 65536 ^ j) = dv (R i) * dv (O j) * 65536 ^ (i + j) := by
        rw [Nat.pow_add, Nat.mul_assoc, Nat.mul_assoc, Nat.mul_left_comm (65536 ^ i)]
      omega
theorem lp2_X2_multiplyRestBy {E : gx_E} (X : gx_X E cX2_multiplyRestBy 6 RX2 none) (hd : 0 ≤ ex_d E) {post : gx_S → Prop} (hQ : ex_Q E = va_Qv post (gx_B (ex_Z E)) (gx_A (ex_Z E))) {v1 : Nat} {R O : Nat → Int32} {u0 : gx_S} (h1 : gx_isR v1 .int) (h2 : gx_len v1 = 32) (h3 : v1 ≠ 20) (hR : okD R 32) (hO : okD O 32) (hf0 : cfix u0) (hR0 : ∀ j, j < 32 → gx_a u0 19 j = R j) (hO0 : ∀ j, j < 32 → gx_a u0 v1 j = O j)
    (hp : ∀ u', exA [20] u0 u' → okD (gx_a u' 20) 64 → vA (gx_a u' 20) 64 = vA R 32 * vA O 32 → post u') :
    ∀ (n i : Nat) (u : gx_S), 32 - i = n → i ≤ 32 → exA [20] u0 u → okD (gx_a u 20) (i + 32) → vA (gx_a u 20) (i + 32) = vA R i * vA O 32 → J_X2_multiplyRestBy_23 E 8 v1 (nI i) u := by
  intro n
  induction n with
  | zero =>
    intro i u hn hi hx hP he
    have ei : i = 32 := by omega
    subst ei
    exact w_X2_multiplyRestBy_23 X hd hQ ⟨fun _ => hp u hx hP he, fun q => absurd (nI_le (a := 32) (by omega) (by omega)) q⟩
  | succ n ih =>
    intro i u hn hi hx hP he
    refine w_X2_multiplyRestBy_23 X hd hQ ⟨fun q => absurd q (nI_ge (b := 32) (by omega) (by omega)), fun _ => ?_⟩
    refine lp3_X2_multiplyRestBy X hd hQ (P0 := gx_a u 20) h1 h2 h3 (by omega) hR hO (fun v hv hok hval => ?_) hf0 hR0 hO0 32 0 0 u (by omega) (by omega) (by omega) hx hP (by rw [Nat.zero_mul, vA_0, Nat.mul_zero])
    refine ih (i + 1) v (by omega) (by omega) hv (by rw [show i + 1 + 32 = i + 33 by omega]; exact hok) ?_
    rw [show i + 1 + 32 = i + 33 by omega, hval, he, vA_s R i, Nat.add_mul]
theorem lp1_X2_multiplyRestBy {E : gx_E} (X : gx_X E cX2_multiplyRestBy 6 RX2 none) (hd : 0 ≤ ex_d E) {post : gx_S → Prop} (hQ : ex_Q E = va_Qv post (gx_B (ex_Z E)) (gx_A (ex_Z E))) {v1 : Nat} {u0 : gx_S} (hf0 : cfix u0) (next : ∀ u, exA [20] u0 u → (∀ j, j < 32 → gx_a u 20 j = 0) → J_X2_multiplyRestBy_23 E 8 v1 (0 : Int32) u) :
    ∀ (n i : Nat) (u : gx_S), 32 - i = n → i ≤ 32 → exA [20] u0 u → (∀ j, j < i → gx_a u 20 j = 0) → J_X2_multiplyRestBy_2 E 8 v1 (nI i) u := by
  intro n
  induction n with
  | zero =>
    intro i u hn hi hx hz
    exact w_X2_multiplyRestBy_2 X hd hQ ⟨fun _ => next u hx (fun j hj => hz j (by omega)), fun q => absurd (nI_le (a := 32) (by omega) (by omega)) q⟩
  | succ n ih =>
    intro i u hn hi hx hz
    have e3 : gx_r u 8 3 = 20 := (exA_r hx 8 3).trans (hf0 8 3 (by decide))
    refine w_X2_multiplyRestBy_2 X hd hQ ⟨fun q => absurd q (nI_ge (b := 32) (by omega) (by omega)), fun _ => ?_⟩
    rw [e3]
    refine ⟨isO_x 8 2 (by decide), isA20, in20 (by omega), ?_⟩
    rintro u4 rfl x5 rfl
    rw [nI_1, nI_clamp (by omega)]
    refine ih (i + 1) _ (by omega) (by omega) (exA_tr hx (exA_pa _ _ (by simp))) (fun j hj => ?_)
    rw [gx_a_pa, if_pos rfl]
    by_cases e : j = i
    · rw [e, pk_us]
    · rw [pk_un e]; exact hz j (by omega)
theorem w_X2_multiplyRestBy {E : gx_E} (X : gx_X E cX2_multiplyRestBy 6 RX2 none) (hd : 0 ≤ ex_d E) {post : gx_S → Prop} (hQ : ex_Q E = va_Qv post (gx_B (ex_Z E)) (gx_A (ex_Z E))) {u : gx_S} {v0 v1 : Nat} (h : S_X2_multiplyRestBy u v0 v1 post) : gx_Wc E 6 0 [(0, .ref (ex_ad E v0)), (1, .ref (ex_ad E v1))] [] u := by
  obtain ⟨rfl, hf, h1, h2, h3, hR, hO, hp⟩ := h
  have z0 : ∀ (a : Nat → Int32), (∀ j, j < 32 → a j = 0) → vA a 32 = 0 := by
    intro a ha
    rw [vA_cg (b := fun _ => 0) 32 ha]
    decide +kernel
  refine w_X2_multiplyRestBy_0 X hd hQ (lp1_X2_multiplyRestBy X hd hQ hf (fun v hv hz => ?_) 32 0 u (by omega) (by omega) (exA_rf _ _) (fun j hj => by omega))
  refine lp2_X2_multiplyRestBy X hd hQ h1 h2 h3 hR hO hf (fun _ _ => rfl) (fun _ _ => rfl) hp 32 0 v (by omega) (by omega) hv (fun j hj => by rw [hz j (by omega)]; decide) ?_
  rw [show 0 + 32 = 32 from rfl, z0 _ hz, vA_0, Nat.zero_mul]
theorem c_X2_multiplyRestBy {l : Launch} {Z : gx_Z} {u : gx_S} {v0 : Nat} {v1 : Nat} {post : gx_S → Prop} (h : S_X2_multiplyRestBy u v0 v1 post) : Met l yX2_multiplyRestBy (Cond.code yX2_multiplyRestBy cX2_multiplyRestBy 6 none :: gx_TB) (gx_rm 0) (gx_Pre Z u [.ref (Z.2.1 v0), .ref (Z.2.1 v1)]) (va_Qv post (gx_B Z) (gx_A Z)) 0 0 (gx_A Z) := by
  refine gx_met (by decide +kernel) (Nat.le_of_ble_eq_true rfl) ?_
  intro E X hZ hQ hD hL
  subst hZ
  exact w_X2_multiplyRestBy X (Nat.le_of_eq hD.symm) hQ h

-- PlainSeal$Modular.takeAway(IJ)V
theorem dX2_takeAway_0 : decode cX2_takeAway 0 = .ok (.lconst 0, 1) := by decide +kernel
theorem dX2_takeAway_1 : decode cX2_takeAway 1 = .ok (.lstore 4, 2) := by decide +kernel
theorem dX2_takeAway_3 : decode cX2_takeAway 3 = .ok (.iconst 0, 1) := by decide +kernel
theorem dX2_takeAway_4 : decode cX2_takeAway 4 = .ok (.istore 6, 2) := by decide +kernel
theorem dX2_takeAway_6 : decode cX2_takeAway 6 = .ok (.iload 6, 2) := by decide +kernel
theorem dX2_takeAway_8 : decode cX2_takeAway 8 = .ok (.bipush 32, 2) := by decide +kernel
theorem dX2_takeAway_10 : decode cX2_takeAway 10 = .ok (.if_icmp .ge 58, 3) := by decide +kernel
theorem dX2_takeAway_13 : decode cX2_takeAway 13 = .ok (.lload 4, 2) := by decide +kernel
theorem dX2_takeAway_15 : decode cX2_takeAway 15 = .ok (.aload_n 0, 1) := by decide +kernel
theorem dX2_takeAway_16 : decode cX2_takeAway 16 = .ok (.getfield 19, 3) := by decide +kernel
theorem dX2_takeAway_19 : decode cX2_takeAway 19 = .ok (.iload_n 1, 1) := by decide +kernel
theorem dX2_takeAway_20 : decode cX2_takeAway 20 = .ok (.iload 6, 2) := by decide +kernel
theorem dX2_takeAway_22 : decode cX2_takeAway 22 = .ok (.iadd, 1) := by decide +kernel
theorem dX2_takeAway_23 : decode cX2_takeAway 23 = .ok (.iaload, 1) := by decide +kernel
theorem dX2_takeAway_24 : decode cX2_takeAway 24 = .ok (.i2l, 1) := by decide +kernel
theorem dX2_takeAway_25 : decode cX2_takeAway 25 = .ok (.lload_n 2, 1) := by decide +kernel
theorem dX2_takeAway_26 : decode cX2_takeAway 26 = .ok (.aload_n 0, 1) := by decide +kernel
theorem dX2_takeAway_27 : decode cX2_takeAway 27 = .ok (.getfield 13, 3) := by decide +kernel
theorem dX2_takeAway_30 : decode cX2_takeAway 30 = .ok (.iload 6, 2) := by decide +kernel
theorem dX2_takeAway_32 : decode cX2_takeAway 32 = .ok (.iaload, 1) := by decide +kernel
theorem dX2_takeAway_33 : decode cX2_takeAway 33 = .ok (.i2l, 1) := by decide +kernel
theorem dX2_takeAway_34 : decode cX2_takeAway 34 = .ok (.lmul, 1) := by decide +kernel
theorem dX2_takeAway_35 : decode cX2_takeAway 35 = .ok (.lsub, 1) := by decide +kernel
theorem dX2_takeAway_36 : decode cX2_takeAway 36 = .ok (.ladd, 1) := by decide +kernel
theorem dX2_takeAway_37 : decode cX2_takeAway 37 = .ok (.lstore 4, 2) := by decide +kernel
theorem dX2_takeAway_39 : decode cX2_takeAway 39 = .ok (.aload_n 0, 1) := by decide +kernel
theorem dX2_takeAway_40 : decode cX2_takeAway 40 = .ok (.getfield 19, 3) := by decide +kernel
theorem dX2_takeAway_43 : decode cX2_takeAway 43 = .ok (.iload_n 1, 1) := by decide +kernel
theorem dX2_takeAway_44 : decode cX2_takeAway 44 = .ok (.iload 6, 2) := by decide +kernel
theorem dX2_takeAway_46 : decode cX2_takeAway 46 = .ok (.iadd, 1) := by decide +kernel
theorem dX2_takeAway_47 : decode cX2_takeAway 47 = .ok (.lload 4, 2) := by decide +kernel
theorem dX2_takeAway_49 : decode cX2_takeAway 49 = .ok (.ldc2_w 53, 3) := by decide +kernel
theorem dX2_takeAway_52 : decode cX2_takeAway 52 = .ok (.land, 1) := by decide +kernel
theorem dX2_takeAway_53 : decode cX2_takeAway 53 = .ok (.l2i, 1) := by decide +kernel
theorem dX2_takeAway_54 : decode cX2_takeAway 54 = .ok (.iastore, 1) := by decide +kernel
theorem dX2_takeAway_55 : decode cX2_takeAway 55 = .ok (.lload 4, 2) := by decide +kernel
theorem dX2_takeAway_57 : decode cX2_takeAway 57 = .ok (.bipush 16, 2) := by decide +kernel
theorem dX2_takeAway_59 : decode cX2_takeAway 59 = .ok (.lshr, 1) := by decide +kernel
theorem dX2_takeAway_60 : decode cX2_takeAway 60 = .ok (.lstore 4, 2) := by decide +kernel
theorem dX2_takeAway_62 : decode cX2_takeAway 62 = .ok (.iinc 6 1, 3) := by decide +kernel
theorem dX2_takeAway_65 : decode cX2_takeAway 65 = .ok (.goto (-59), 3) := by decide +kernel
theorem dX2_takeAway_68 : decode cX2_takeAway 68 = .ok (.aload_n 0, 1) := by decide +kernel
theorem dX2_takeAway_69 : decode cX2_takeAway 69 = .ok (.getfield 19, 3) := by decide +kernel
theorem dX2_takeAway_72 : decode cX2_takeAway 72 = .ok (.iload_n 1, 1) := by decide +kernel
theorem dX2_takeAway_73 : decode cX2_takeAway 73 = .ok (.bipush 32, 2) := by decide +kernel
theorem dX2_takeAway_75 : decode cX2_takeAway 75 = .ok (.iadd, 1) := by decide +kernel
theorem dX2_takeAway_76 : decode cX2_takeAway 76 = .ok (.iaload, 1) := by decide +kernel
theorem dX2_takeAway_77 : decode cX2_takeAway 77 = .ok (.i2l, 1) := by decide +kernel
theorem dX2_takeAway_78 : decode cX2_takeAway 78 = .ok (.lload 4, 2) := by decide +kernel
theorem dX2_takeAway_80 : decode cX2_takeAway 80 = .ok (.ladd, 1) := by decide +kernel
theorem dX2_takeAway_81 : decode cX2_takeAway 81 = .ok (.lstore 6, 2) := by decide +kernel
theorem dX2_takeAway_83 : decode cX2_takeAway 83 = .ok (.iconst 0, 1) := by decide +kernel
theorem dX2_takeAway_84 : decode cX2_takeAway 84 = .ok (.istore 8, 2) := by decide +kernel
theorem dX2_takeAway_86 : decode cX2_takeAway 86 = .ok (.iload 8, 2) := by decide +kernel
theorem dX2_takeAway_88 : decode cX2_takeAway 88 = .ok (.iconst 2, 1) := by decide +kernel
theorem dX2_takeAway_89 : decode cX2_takeAway 89 = .ok (.if_icmp .ge 26, 3) := by decide +kernel
theorem dX2_takeAway_92 : decode cX2_takeAway 92 = .ok (.lload 6, 2) := by decide +kernel
theorem dX2_takeAway_94 : decode cX2_takeAway 94 = .ok (.lconst 0, 1) := by decide +kernel
theorem dX2_takeAway_95 : decode cX2_takeAway 95 = .ok (.lcmp, 1) := by decide +kernel
theorem dX2_takeAway_96 : decode cX2_takeAway 96 = .ok (.ifCond .ge 19, 3) := by decide +kernel
theorem dX2_takeAway_99 : decode cX2_takeAway 99 = .ok (.lload 6, 2) := by decide +kernel
theorem dX2_takeAway_101 : decode cX2_takeAway 101 = .ok (.aload_n 0, 1) := by decide +kernel
theorem dX2_takeAway_102 : decode cX2_takeAway 102 = .ok (.iload_n 1, 1) := by decide +kernel
theorem dX2_takeAway_103 : decode cX2_takeAway 103 = .ok (.invokevirtual 70, 3) := by decide +kernel
theorem dX2_takeAway_106 : decode cX2_takeAway 106 = .ok (.ladd, 1) := by decide +kernel
theorem dX2_takeAway_107 : decode cX2_takeAway 107 = .ok (.lstore 6, 2) := by decide +kernel
theorem dX2_takeAway_109 : decode cX2_takeAway 109 = .ok (.iinc 8 1, 3) := by decide +kernel
theorem dX2_takeAway_112 : decode cX2_takeAway 112 = .ok (.goto (-26), 3) := by decide +kernel
theorem dX2_takeAway_115 : decode cX2_takeAway 115 = .ok (.aload_n 0, 1) := by decide +kernel
theorem dX2_takeAway_116 : decode cX2_takeAway 116 = .ok (.getfield 19, 3) := by decide +kernel
theorem dX2_takeAway_119 : decode cX2_takeAway 119 = .ok (.iload_n 1, 1) := by decide +kernel
theorem dX2_takeAway_120 : decode cX2_takeAway 120 = .ok (.bipush 32, 2) := by decide +kernel
theorem dX2_takeAway_122 : decode cX2_takeAway 122 = .ok (.iadd, 1) := by decide +kernel
theorem dX2_takeAway_123 : decode cX2_takeAway 123 = .ok (.lload 6, 2) := by decide +kernel
theorem dX2_takeAway_125 : decode cX2_takeAway 125 = .ok (.l2i, 1) := by decide +kernel
theorem dX2_takeAway_126 : decode cX2_takeAway 126 = .ok (.iastore, 1) := by decide +kernel
theorem dX2_takeAway_127 : decode cX2_takeAway 127 = .ok (.return_, 1) := by decide +kernel
theorem hyX2_takeAway : yX2_takeAway.cls ≠ "java/lang/invoke/MethodHandle" ∧ yX2_takeAway.cls ≠ "java/lang/invoke/VarHandle" ∧ (parseMethodDescriptor yX2_takeAway.desc).map (fun d => d.parameters.length) = some 2 := by decide +kernel
abbrev J_X2_takeAway_6 (E : gx_E) (v0 : Nat) (v1 : Int32) (v2 : Int64) (v4 : Int64) (v6 : Int32) (u : gx_S) : Prop := gx_Wc E 9 6 [(0, .ref (ex_ad E v0)), (1, .int v1), (2, .long v2), (4, .long v4), (6, .int v6)] [] u
abbrev J_X2_takeAway_86 (E : gx_E) (v0 : Nat) (v1 : Int32) (v2 : Int64) (v4 : Int64) (v6 : Int64) (v8 : Int32) (u : gx_S) : Prop := gx_Wc E 9 86 [(0, .ref (ex_ad E v0)), (1, .int v1), (2, .long v2), (4, .long v4), (6, .long v6), (8, .int v8)] [] u
set_option maxHeartbeats 4000000 in
set_option maxRecDepth 100000 in
theorem w_X2_takeAway_0 {E : gx_E} (X : gx_X E cX2_takeAway 9 RX2 none) (hd : 1 ≤ ex_d E) {post : gx_S → Prop} (hQ : ex_Q E = va_Qv post (gx_B (ex_Z E)) (gx_A (ex_Z E))) {u : gx_S} {v0 : Nat} {v1 : Int32} {v2 : Int64} (h : J_X2_takeAway_6 E v0 v1 v2 (0 : Int64) (0 : Int32) u) : gx_Wc E 9 0 [(0, .ref (ex_ad E v0)), (1, .int v1), (2, .long v2)] [] u := by
  refine gx_lconst X (v := 0) dX2_takeAway_0 (by decide) ?_
  refine gx_lstore X (lv' := [(4, .long (0 : Int64)), (0, .ref (ex_ad E v0)), (1, .int v1), (2, .long v2)]) dX2_takeAway_1 (by decide) rfl ?_
  refine gx_iconst X (v := 0) dX2_takeAway_3 (by decide) ?_
  refine gx_istore X (lv' := [(6, .int (0 : Int32)), (4, .long (0 : Int64)), (0, .ref (ex_ad E v0)), (1, .int v1), (2, .long v2)]) dX2_takeAway_4 (by decide) rfl ?_
  exact gx_sub [2, 3, 4, 1, 0] rfl h
set_option maxHeartbeats 4000000 in
set_option maxRecDepth 100000 in
theorem w_X2_takeAway_6 {E : gx_E} (X : gx_X E cX2_takeAway 9 RX2 none) (hd : 1 ≤ ex_d E) {post : gx_S → Prop} (hQ : ex_Q E = va_Qv post (gx_B (ex_Z E)) (gx_A (ex_Z E))) {u : gx_S} {v0 : Nat} {v1 : Int32} {v2 : Int64} {v4 : Int64} {v6 : Int32} (h : (((32 : Int32) ≤ v6 → (gx_isO v0 2 ∧ (gx_isR (gx_r u v0 3) .int ∧ vp_in (v1 + (32 : Int32)) (gx_len (gx_r u v0 3)) ∧ (∀ x4 : Int64, x4 = (((gx_a u (gx_r u v0 3) (v1 + (32 : Int32)).toNatClampNeg)).toInt64 + v4) → J_X2_takeAway_86 E v0 v1 v2 v4 x4 (0 : Int32) u)))) ∧ (¬ (32 : Int32) ≤ v6 → (gx_isO v0 2 ∧ (gx_isR (gx_r u v0 3) .int ∧ vp_in (v1 + v6) (gx_len (gx_r u v0 3)) ∧ (gx_isR (gx_r u v0 1) .int ∧ vp_in v6 (gx_len (gx_r u v0 1)) ∧ (∀ x10 : Int64, x10 = (v4 + (((gx_a u (gx_r u v0 3) (v1 + v6).toNatClampNeg)).toInt64 - (v2 * ((gx_a u (gx_r u v0 1) v6.toNatClampNeg)).toInt64))) → (gx_isA (gx_r u v0 3) .int ∧ vp_in (v1 + v6) (gx_len (gx_r u v0 3)) ∧ ∀ u13 : gx_S, u13 = gx_pa u (gx_r u v0 3) (upd (gx_a u (gx_r u v0 3)) (v1 + v6).toNatClampNeg ((x10 &&& (65535 : Int64))).toInt32) → (∀ x14 : Int64, x14 = (x10 >>> ((16 : Int32).toInt64 &&& 63)) → (∀ x15 : Int32, x15 = v6 + 1 → J_X2_takeAway_6 E v0 v1 v2 x14 x15 u13)))))))))) : gx_Wc E 9 6 [(0, .ref (ex_ad E v0)), (1, .int v1), (2, .long v2), (4, .long v4), (6, .int v6)] [] u := by
  refine gx_iload X (j := 4) dX2_takeAway_6 rfl ?_
  refine gx_bipush X (v := 32) dX2_takeAway_8 (by decide) ?_
  refine gx_icmp_ge X (tgt := 68) dX2_takeAway_10 (by decide) (fun c16 => ?_) (fun c16 => ?_)
  · replace h := h.1 c16
    refine gx_aload_n X (j := 0) dX2_takeAway_68 rfl rfl ?_
    obtain ⟨k1, h⟩ := h
    refine gx_get X k1 rfl iwX2 3 (by decide) mw_94 (v := .ref (ex_ad E (gx_r u v0 3))) rfl dX2_takeAway_69 ?_
    refine gx_iload_n X (j := 1) dX2_takeAway_72 rfl rfl ?_
    refine gx_bipush X (v := 32) dX2_takeAway_73 (by decide) ?_
    refine gx_iadd X dX2_takeAway_75 ?_
    obtain ⟨k2, h⟩ := h
    obtain ⟨k3, h⟩ := h
    refine gx_iald X k2 k3 dX2_takeAway_76 ?_
    refine gx_i2l X (v := ((gx_a u (gx_r u v0 3) (v1 + (32 : Int32)).toNatClampNeg)).toInt64) dX2_takeAway_77 rfl ?_
    refine gx_lload X (j := 3) dX2_takeAway_78 rfl ?_
    refine gx_ladd X dX2_takeAway_80 ?_
    refine gx_naml (fun x4 ex4 => ?_)
    replace h := h x4 ex4
    refine gx_lstore X (lv' := [(6, .long x4), (0, .ref (ex_ad E v0)), (1, .int v1), (2, .long v2), (4, .long v4)]) dX2_takeAway_81 (by decide) rfl ?_
    refine gx_iconst X (v := 0) dX2_takeAway_83 (by decide) ?_
    refine gx_istore X (lv' := [(8, .int (0 : Int32)), (6, .long x4), (0, .ref (ex_ad E v0)), (1, .int v1), (2, .long v2), (4, .long v4)]) dX2_takeAway_84 (by decide) rfl ?_
    exact gx_sub [2, 3, 4, 5, 1, 0] rfl h
  · replace h := h.2 c16
    refine gx_lload X (j := 3) dX2_takeAway_13 rfl ?_
    refine gx_aload_n X (j := 0) dX2_takeAway_15 rfl rfl ?_
    obtain ⟨k5, h⟩ := h
    refine gx_get X k5 rfl iwX2 3 (by decide) mw_94 (v := .ref (ex_ad E (gx_r u v0 3))) rfl dX2_takeAway_16 ?_
    refine gx_iload_n X (j := 1) dX2_takeAway_19 rfl rfl ?_
    refine gx_iload X (j := 4) dX2_takeAway_20 rfl ?_
    refine gx_iadd X dX2_takeAway_22 ?_
    obtain ⟨k6, h⟩ := h
    obtain ⟨k7, h⟩ := h
    refine gx_iald X k6 k7 dX2_takeAway_23 ?_
    refine gx_i2l X (v := ((gx_a u (gx_r u v0 3) (v1 + v6).toNatClampNeg)).toInt64) dX2_takeAway_24 rfl ?_
    refine gx_lload_n X (j := 2) dX2_takeAway_25 rfl rfl ?_
    refine gx_aload_n X (j := 0) dX2_takeAway_26 rfl rfl ?_
    refine gx_get X k5 rfl iwX2 1 (by decide) mw_92 (v := .ref (ex_ad E (gx_r u v0 1))) rfl dX2_takeAway_27 ?_
    refine gx_iload X (j := 4) dX2_takeAway_30 rfl ?_
    obtain ⟨k8, h⟩ := h
    obtain ⟨k9, h⟩ := h
    refine gx_iald X k8 k9 dX2_takeAway_32 ?_
    refine gx_i2l X (v := ((gx_a u (gx_r u v0 1) v6.toNatClampNeg)).toInt64) dX2_takeAway_33 rfl ?_
    refine gx_lmul X dX2_takeAway_34 ?_
    refine gx_lsub X dX2_takeAway_35 ?_
    refine gx_ladd X dX2_takeAway_36 ?_
    refine gx_naml (fun x10 ex10 => ?_)
    replace h := h x10 ex10
    refine gx_lstore X (lv' := [(4, .long x10), (0, .ref (ex_ad E v0)), (1, .int v1), (2, .long v2), (6, .int v6)]) dX2_takeAway_37 (by decide) rfl ?_
    refine gx_aload_n X (j := 1) dX2_takeAway_39 rfl rfl ?_
    refine gx_get X k5 rfl iwX2 3 (by decide) mw_94 (v := .ref (ex_ad E (gx_r u v0 3))) rfl dX2_takeAway_40 ?_
    refine gx_iload_n X (j := 2) dX2_takeAway_43 rfl rfl ?_
    refine gx_iload X (j := 4) dX2_takeAway_44 rfl ?_
    refine gx_iadd X dX2_takeAway_46 ?_
    refine gx_lload X (j := 0) dX2_takeAway_47 rfl ?_
    refine gx_ldc2 X (v := 65535) mw_400 dX2_takeAway_49 ?_
    refine gx_land X dX2_takeAway_52 ?_
    refine gx_l2i X (v := ((x10 &&& (65535 : Int64))).toInt32) dX2_takeAway_53 rfl ?_
    obtain ⟨k11, h⟩ := h
    obtain ⟨k12, h⟩ := h
    refine gx_iast X k11 k12 dX2_takeAway_54 ?_
    refine gx_nams (fun u13 eu13 => ?_)
    replace h := h u13 eu13
    refine gx_lload X (j := 0) dX2_takeAway_55 rfl ?_
    refine gx_bipush X (v := 16) dX2_takeAway_57 (by decide) ?_
    refine gx_lshr X (v := (x10 >>> ((16 : Int32).toInt64 &&& 63))) dX2_takeAway_59 rfl ?_
    refine gx_naml (fun x14 ex14 => ?_)
    replace h := h x14 ex14
    refine gx_lstore X (lv' := [(4, .long x14), (0, .ref (ex_ad E v0)), (1, .int v1), (2, .long v2), (6, .int v6)]) dX2_takeAway_60 (by decide) rfl ?_
    obtain ⟨x15, ex15⟩ : ∃ y : Int32, y = v6 + 1 := ⟨_, rfl⟩
    replace h := h x15 ex15
    refine gx_iinc X (v := x15) (lv' := [(6, .int x15), (4, .long x14), (0, .ref (ex_ad E v0)), (1, .int v1), (2, .long v2)]) dX2_takeAway_62 (j := 4) rfl (by rw [ex15]; rfl) (by decide) rfl ?_
    refine gx_goto X (tgt := 6) dX2_takeAway_65 (by decide) ?_
    exact gx_sub [2, 3, 4, 1, 0] rfl h
set_option maxHeartbeats 4000000 in
set_option maxRecDepth 100000 in
theorem w_X2_takeAway_86 {E : gx_E} (X : gx_X E cX2_takeAway 9 RX2 none) (hd : 1 ≤ ex_d E) {post : gx_S → Prop} (hQ : ex_Q E = va_Qv post (gx_B (ex_Z E)) (gx_A (ex_Z E))) {u : gx_S} {v0 : Nat} {v1 : Int32} {v2 : Int64} {v4 : Int64} {v6 : Int64} {v8 : Int32} (h : (((2 : Int32) ≤ v8 → (gx_isO v0 2 ∧ (gx_isA (gx_r u v0 3) .int ∧ vp_in (v1 + (32 : Int32)) (gx_len (gx_r u v0 3)) ∧ ∀ u4 : gx_S, u4 = gx_pa u (gx_r u v0 3) (upd (gx_a u (gx_r u v0 3)) (v1 + (32 : Int32)).toNatClampNeg (v6).toInt32) → post u4))) ∧ (¬ (2 : Int32) ≤ v8 → ((0 ≤ (lg_cmp v6 (0 : Int64)) → (gx_isO v0 2 ∧ (gx_isA (gx_r u v0 3) .int ∧ vp_in (v1 + (32 : Int32)) (gx_len (gx_r u v0 3)) ∧ ∀ u8 : gx_S, u8 = gx_pa u (gx_r u v0 3) (upd (gx_a u (gx_r u v0 3)) (v1 + (32 : Int32)).toNatClampNeg (v6).toInt32) → post u8))) ∧ (¬ 0 ≤ (lg_cmp v6 (0 : Int64)) → (gx_isO v0 2 ∧ S_X2_giveBack u v0 v1 (fun (r11 : Int64) (u10 : gx_S) => (∀ x12 : Int64, x12 = (v6 + r11) → (∀ x13 : Int32, x13 = v8 + 1 → J_X2_takeAway_86 E v0 v1 v2 v4 x12 x13 u10))))))))) : gx_Wc E 9 86 [(0, .ref (ex_ad E v0)), (1, .int v1), (2, .long v2), (4, .long v4), (6, .long v6), (8, .int v8)] [] u := by
  refine gx_iload X (j := 5) dX2_takeAway_86 rfl ?_
  refine gx_iconst X (v := 2) dX2_takeAway_88 (by decide) ?_
  refine gx_icmp_ge X (tgt := 115) dX2_takeAway_89 (by decide) (fun c15 => ?_) (fun c15 => ?_)
  · replace h := h.1 c15
    refine gx_aload_n X (j := 0) dX2_takeAway_115 rfl rfl ?_
    obtain ⟨k1, h⟩ := h
    refine gx_get X k1 rfl iwX2 3 (by decide) mw_94 (v := .ref (ex_ad E (gx_r u v0 3))) rfl dX2_takeAway_116 ?_
    refine gx_iload_n X (j := 1) dX2_takeAway_119 rfl rfl ?_
    refine gx_bipush X (v := 32) dX2_takeAway_120 (by decide) ?_
    refine gx_iadd X dX2_takeAway_122 ?_
    refine gx_lload X (j := 4) dX2_takeAway_123 rfl ?_
    refine gx_l2i X (v := (v6).toInt32) dX2_takeAway_125 rfl ?_
    obtain ⟨k2, h⟩ := h
    obtain ⟨k3, h⟩ := h
    refine gx_iast X k2 k3 dX2_takeAway_126 ?_
    refine gx_nams (fun u4 eu4 => ?_)
    replace h := h u4 eu4
    exact gx_vret X hQ h dX2_takeAway_127
  · replace h := h.2 c15
    refine gx_lload X (j := 4) dX2_takeAway_92 rfl ?_
    refine gx_lconst X (v := 0) dX2_takeAway_94 (by decide) ?_
    refine gx_lcmp X dX2_takeAway_95 ?_
    refine gx_if_ge X (tgt := 115) dX2_takeAway_96 (by decide) (fun c14 => ?_) (fun c14 => ?_)
    · replace h := h.1 c14
      refine gx_aload_n X (j := 0) dX2_takeAway_115 rfl rfl ?_
      obtain ⟨k5, h⟩ := h
      refine gx_get X k5 rfl iwX2 3 (by decide) mw_94 (v := .ref (ex_ad E (gx_r u v0 3))) rfl dX2_takeAway_116 ?_
      refine gx_iload_n X (j := 1) dX2_takeAway_119 rfl rfl ?_
      refine gx_bipush X (v := 32) dX2_takeAway_120 (by decide) ?_
      refine gx_iadd X dX2_takeAway_122 ?_
      refine gx_lload X (j := 4) dX2_takeAway_123 rfl ?_
      refine gx_l2i X (v := (v6).toInt32) dX2_takeAway_125 rfl ?_
      obtain ⟨k6, h⟩ := h
      obtain ⟨k7, h⟩ := h
      refine gx_iast X k6 k7 dX2_takeAway_126 ?_
      refine gx_nams (fun u8 eu8 => ?_)
      replace h := h u8 eu8
      exact gx_vret X hQ h dX2_takeAway_127
    · replace h := h.2 c14
      refine gx_lload X (j := 4) dX2_takeAway_99 rfl ?_
      refine gx_aload_n X (j := 0) dX2_takeAway_101 rfl rfl ?_
      refine gx_iload_n X (j := 1) dX2_takeAway_102 rfl rfl ?_
      obtain ⟨k9, h⟩ := h
      refine gx_kl (gx_rV X (c_X2_giveBack h) (Nat.le_trans (by decide) hd) (Nat.le_trans (by decide) (Nat.mul_le_mul_left 40 hd)) k9 rfl mw_408 mw_410 mp_9 mw_6 mw_411 hyX2_giveBack (As := [.int v1]) (rest := [.long v6]) rfl rfl (Nat.le_of_ble_eq_true rfl) dX2_takeAway_103) (fun r11 u10 h => ?_)
      refine gx_ladd X dX2_takeAway_106 ?_
      refine gx_naml (fun x12 ex12 => ?_)
      replace h := h x12 ex12
      refine gx_lstore X (lv' := [(6, .long x12), (0, .ref (ex_ad E v0)), (1, .int v1), (2, .long v2), (4, .long v4), (8, .int v8)]) dX2_takeAway_107 (by decide) rfl ?_
      obtain ⟨x13, ex13⟩ : ∃ y : Int32, y = v8 + 1 := ⟨_, rfl⟩
      replace h := h x13 ex13
      refine gx_iinc X (v := x13) (lv' := [(8, .int x13), (6, .long x12), (0, .ref (ex_ad E v0)), (1, .int v1), (2, .long v2), (4, .long v4)]) dX2_takeAway_109 (j := 5) rfl (by rw [ex13]; rfl) (by decide) rfl ?_
      refine gx_goto X (tgt := 86) dX2_takeAway_112 (by decide) ?_
      exact gx_sub [2, 3, 4, 5, 1, 0] rfl h
def S_X2_takeAway (u : gx_S) (v0 : Nat) (v1 : Int32) (v2 : Int64) (post : gx_S → Prop) : Prop := v0 = 8 ∧ cfix u ∧ ∃ p q : Nat, p ≤ 31 ∧ v1 = nI p ∧ v2 = lz q ∧ q < 65536 ∧ okD (gx_a u 20) 64 ∧ okD (gx_a u 18) 32 ∧ 0 < vA (gx_a u 18) 32 ∧ vA (sl (gx_a u 20) p) 33 / vA (gx_a u 18) 32 ≤ q ∧ q ≤ vA (sl (gx_a u 20) p) 33 / vA (gx_a u 18) 32 + 2 ∧ ∀ u', exA [20] u u' → okD (gx_a u' 20) 64 → (∀ j, (j < p ∨ p + 32 < j) → gx_a u' 20 j = gx_a u 20 j) → gx_a u' 20 (p + 32) = 0 → vA (sl (gx_a u' 20) p) 32 = vA (sl (gx_a u 20) p) 33 % vA (gx_a u 18) 32 → post u'
theorem lcmp0 (t : Int) (h1 : -4611686018427387904 ≤ t) (h2 : t < 4611686018427387904) : 0 ≤ lg_cmp (lz t) (0 : Int64) ↔ 0 ≤ t := by
  rw [lg_cmp_ge, Int64.le_iff_toInt_le, lz_toInt h1 h2]
  rfl
theorem ta_lt {V r G b s Mv BB : Nat} (h : V + (s + 1) * Mv + G * BB = r + b * BB) (hr : r < Mv) : G < b := by
  have h1 : Mv ≤ (s + 1) * Mv := Nat.le_mul_of_pos_left Mv (by omega)
  have h2 : G * BB < b * BB := by omega
  exact Nat.lt_of_mul_lt_mul_right h2
theorem ta_eq {V r G b BB : Nat} (h : V + G * BB = r + b * BB) (hV : V < BB) (hr : r < BB) : G = b ∧ V = r := by
  have e1 : (V + G * BB) / BB = G := by rw [Nat.add_mul_div_right _ _ (by omega), Nat.div_eq_of_lt hV, Nat.zero_add]
  have e2 : (r + b * BB) / BB = b := by rw [Nat.add_mul_div_right _ _ (by omega), Nat.div_eq_of_lt hr, Nat.zero_add]
  have e : G = b := by rw [← e1, h, e2]
  subst e
  exact ⟨rfl, by omega⟩
theorem lp2_X2_takeAway {E : gx_E} (X : gx_X E cX2_takeAway 9 RX2 none) (hd : 1 ≤ ex_d E) {post : gx_S → Prop} (hQ : ex_Q E = va_Qv post (gx_B (ex_Z E)) (gx_A (ex_Z E))) {p r b : Nat} {v2 v4 : Int64} {u0 : gx_S} (hp : p ≤ 31) (hf0 : cfix u0) (hM : okD (gx_a u0 18) 32) (hr : r < vA (gx_a u0 18) 32) (hb : b ≤ 65536)
    (hh : ∀ u', exA [20] u0 u' → okD (gx_a u' 20) 64 → (∀ j, (j < p ∨ p + 32 < j) → gx_a u' 20 j = gx_a u0 20 j) → gx_a u' 20 (p + 32) = 0 → vA (sl (gx_a u' 20) p) 32 = r → post u') :
    ∀ (s e G : Nat) (u : gx_S), e + s ≤ 2 → G ≤ 70000 + e → exA [20] u0 u → okD (gx_a u 20) 64 → (∀ j, (j < p ∨ p + 32 < j) → gx_a u 20 j = gx_a u0 20 j) → vA (sl (gx_a u 20) p) 32 + s * vA (gx_a u0 18) 32 + G * 65536 ^ 32 = r + b * 65536 ^ 32 → J_X2_takeAway_86 E 8 (nI p) v2 v4 (lz ((G : Int) - (b : Int))) (nI e) u := by
  have hMl := vA_lt 32 hM
  intro s
  induction s with
  | zero =>
    intro e G u he hG hx hP ho hv
    rw [Nat.zero_mul, Nat.add_zero] at hv
    obtain ⟨rfl, hvr⟩ := ta_eq hv (vA_lt 32 (okD_sl hP (by omega))) (by omega)
    have e3 : gx_r u 8 3 = 20 := (exA_r hx 8 3).trans (hf0 8 3 (by decide))
    have fin : gx_isO 8 2 ∧ (gx_isA (gx_r u 8 3) .int ∧ vp_in (nI p + (32 : Int32)) (gx_len (gx_r u 8 3)) ∧ ∀ u4 : gx_S, u4 = gx_pa u (gx_r u 8 3) (upd (gx_a u (gx_r u 8 3)) (nI p + (32 : Int32)).toNatClampNeg (lz ((G : Int) - (G : Int))).toInt32) → post u4) := by
      rw [e3, show (32 : Int32) = nI 32 from rfl, nI_add, nI_clamp (by omega), Int.sub_self, show lz 0 = lz ((0 : Nat) : Int) from rfl, lz_i]
      refine ⟨isO_x 8 2 (by decide), isA20, in20 (by omega), ?_⟩
      rintro u4 rfl
      refine hh _ (exA_tr hx (exA_pa _ _ (by simp))) ?_ (fun j hj => ?_) ?_ ?_
      · rw [gx_a_pa, if_pos rfl]; exact okD_upd hP (by omega)
      · rw [gx_a_pa, if_pos rfl, pk_un (by omega)]; exact ho j hj
      · rw [gx_a_pa, if_pos rfl, pk_us]; rfl
      · rw [gx_a_pa, if_pos rfl, sl_upd, vA_ge 32 (Nat.le_refl _)]; exact hvr
    refine w_X2_takeAway_86 X hd hQ ⟨fun _ => fin, fun _ => ⟨fun _ => fin, fun q => absurd ((lcmp0 _ (by omega) (by omega)).mpr (by omega)) q⟩⟩
  | succ s ih =>
    intro e G u he hG hx hP ho hv
    have hlt := ta_lt hv hr
    have e1 : gx_a u 18 = gx_a u0 18 := hx.2.2.2 18 (by decide)
    refine w_X2_takeAway_86 X hd hQ ⟨fun q => absurd q (nI_ge (b := 2) (by omega) (by omega)), fun _ => ⟨fun q => absurd ((lcmp0 _ (by omega) (by omega)).mp q) (by omega), fun _ => ⟨isO_x 8 2 (by decide), rfl, exA_cfix hx hf0, p, hp, rfl, hP, by rw [e1]; exact hM, ?_⟩⟩⟩
    intro u' c hx' hc hP' ho' hv'
    intro x12 e12 x13 e13
    subst e13
    rw [nI_1]
    rw [lz_add, show ((G : Int) - (b : Int) + (c : Int)) = (((G + c : Nat) : Int) - (b : Int)) by push_cast; omega] at e12
    subst e12
    rw [e1] at hv'
    refine ih (e + 1) (G + c) u' (by omega) (by omega) (exA_tr hx hx') hP' (fun j hj => ?_) ?_
    · rw [ho' j (by omega)]; exact ho j hj
    · rw [Nat.add_mul] at hv ⊢
      rw [Nat.one_mul] at hv
      omega
theorem lp1_X2_takeAway {E : gx_E} (X : gx_X E cX2_takeAway 9 RX2 none) (hd : 1 ≤ ex_d E) {post : gx_S → Prop} (hQ : ex_Q E = va_Qv post (gx_B (ex_Z E)) (gx_A (ex_Z E))) {p q : Nat} {u0 : gx_S} (hp : p ≤ 31) (hq : q < 65536) (hf0 : cfix u0) (hM : okD (gx_a u0 18) 32)
    (next : ∀ (u : gx_S) (b : Nat), b ≤ 65536 → exA [20] u0 u → okD (gx_a u 20) 64 → (∀ j, (j < p ∨ p + 32 ≤ j) → gx_a u 20 j = gx_a u0 20 j) → vA (sl (gx_a u 20) p) 32 + q * vA (gx_a u0 18) 32 = vA (sl (gx_a u0 20) p) 32 + b * 65536 ^ 32 → J_X2_takeAway_86 E 8 (nI p) (lz q) (lz (-(b : Int))) (lz ((dv (gx_a u0 20 (p + 32)) : Int) - (b : Int))) (0 : Int32) u) :
    ∀ (n i b : Nat) (u : gx_S), 32 - i = n → i ≤ 32 → b ≤ 65536 → exA [20] u0 u → okD (gx_a u 20) 64 → (∀ j, (j < p ∨ p + 32 ≤ j) → gx_a u 20 j = gx_a u0 20 j) → vA (sl (gx_a u 20) p) 32 + q * vA (gx_a u0 18) i = vA (sl (gx_a u0 20) p) 32 + b * 65536 ^ i → J_X2_takeAway_6 E 8 (nI p) (lz q) (lz (-(b : Int))) (nI i) u := by
  intro n
  induction n with
  | zero =>
    intro i b u hn hi hb hx hP ho he
    have ei : i = 32 := by omega
    subst ei
    have e3 : gx_r u 8 3 = 20 := (exA_r hx 8 3).trans (hf0 8 3 (by decide))
    refine w_X2_takeAway_6 X hd hQ ⟨fun _ => ?_, fun z => absurd (nI_le (a := 32) (by omega) (by omega)) z⟩
    rw [e3, show (32 : Int32) = nI 32 from rfl, nI_add, nI_clamp (by omega)]
    refine ⟨isO_x 8 2 (by decide), isA20.r, in20 (by omega), ?_⟩
    intro x4 e4
    rw [lz_dv (hP (p + 32) (by omega)), lz_add, ho (p + 32) (by omega), show ((dv (gx_a u0 20 (p + 32)) : Int) + -(b : Int)) = (dv (gx_a u0 20 (p + 32)) : Int) - (b : Int) by omega] at e4
    subst e4
    exact next u b hb hx hP ho he
  | succ n ih =>
    intro i b u hn hi hb hx hP ho he
    have e3 : gx_r u 8 3 = 20 := (exA_r hx 8 3).trans (hf0 8 3 (by decide))
    have e1 : gx_r u 8 1 = 18 := (exA_r hx 8 1).trans (hf0 8 1 (by decide))
    have bP := hP (p + i) (by omega)
    have bM := hM i (by omega)
    have bQ : q * dv (gx_a u0 18 i) ≤ 65535 * 65535 := Nat.mul_le_mul (by omega) (by omega)
    refine w_X2_takeAway_6 X hd hQ ⟨fun z => absurd z (nI_ge (b := 32) (by omega) (by omega)), fun _ => ?_⟩
    rw [e3, e1, nI_add, nI_clamp (by omega), nI_clamp (by omega), hx.2.2.2 18 (by decide)]
    refine ⟨isO_x 8 2 (by decide), isA20.r, in20 (by omega), isA18.r, in32 rfl (by omega), ?_⟩
    intro x10 e10
    rw [lz_dv bP, lz_dv bM, lz_mul, lz_sub, lz_add, show (-(b : Int) + ((dv (gx_a u 20 (p + i)) : Int) - (q : Int) * (dv (gx_a u0 18 i) : Int))) = (dv (gx_a u 20 (p + i)) : Int) - ((b + q * dv (gx_a u0 18 i) : Nat) : Int) by push_cast; omega] at e10
    generalize hy : b + q * dv (gx_a u0 18 i) = y at e10
    generalize hPi : dv (gx_a u 20 (p + i)) = P at e10 bP
    subst e10
    refine ⟨isA20, in20 (by omega), ?_⟩
    rintro u13 rfl x14 e14 x15 rfl
    rw [nI_1]
    obtain ⟨r, hr⟩ : ∃ r : Nat, r = (((P : Int) - (y : Int)) % 65536).toNat := ⟨_, rfl⟩
    obtain ⟨b', hb'⟩ : ∃ b' : Nat, b' = (-(((P : Int) - (y : Int)) / 65536)).toNat := ⟨_, rfl⟩
    have key : P + b' * 65536 = y + r := by omega
    have hr2 : r < 65536 := by omega
    have hb2 : b' ≤ 65536 := by omega
    rw [lz_shr (by omega) (by omega), show ((P : Int) - (y : Int)) / 65536 = -(b' : Int) by omega] at e14
    subst e14
    rw [lz_and, ← hr]
    refine ih (i + 1) b' _ (by omega) (by omega) hb2 (exA_tr hx (exA_pa _ _ (by simp))) ?_ (fun j hj => ?_) ?_
    · rw [gx_a_pa, if_pos rfl]; exact okD_upd hP hr2
    · rw [gx_a_pa, if_pos rfl, pk_un (by omega)]; exact ho j hj
    · rw [gx_a_pa, if_pos rfl, sl_upd]
      have hu := vA_upd (a := sl (gx_a u 20) p) (k := i) (x := nI r) 32 (by omega)
      rw [dv_nI (by omega), show sl (gx_a u 20) p i = gx_a u 20 (p + i) from rfl, hPi] at hu
      have k2 : P * 65536 ^ i + b' * (65536 * 65536 ^ i) = b * 65536 ^ i + q * (dv (gx_a u0 18 i) * 65536 ^ i) + r * 65536 ^ i := by
        rw [← Nat.mul_assoc, ← Nat.mul_assoc, ← Nat.add_mul, ← Nat.add_mul, ← Nat.add_mul, key, hy]
      rw [pow_s, vA_s (gx_a u0 18) i, Nat.mul_add]
      omega
theorem w_X2_takeAway {E : gx_E} (X : gx_X E cX2_takeAway 9 RX2 none) (hd : 1 ≤ ex_d E) {post : gx_S → Prop} (hQ : ex_Q E = va_Qv post (gx_B (ex_Z E)) (gx_A (ex_Z E))) {u : gx_S} {v0 : Nat} {v1 : Int32} {v2 : Int64} (h : S_X2_takeAway u v0 v1 v2 post) : gx_Wc E 9 0 [(0, .ref (ex_ad E v0)), (1, .int v1), (2, .long v2)] [] u := by
  obtain ⟨rfl, hf, p, q, hp, rfl, rfl, hq, hP, hM, hpos, hlo, hhi, hh⟩ := h
  refine w_X2_takeAway_0 X hd hQ ?_
  refine lp1_X2_takeAway X hd hQ hp hq hf hM (fun v b hb hx hPv ho hv => ?_) 32 0 0 u (by omega) (by omega) (by omega) (exA_rf _ _) hP (fun _ _ => rfl) (by rw [vA_0, Nat.mul_zero, Nat.zero_mul])
  have bt := hP (p + 32) (by omega)
  refine lp2_X2_takeAway X hd hQ (r := vA (sl (gx_a u 20) p) 33 % vA (gx_a u 18) 32) hp hf hM (Nat.mod_lt _ hpos) hb hh (q - vA (sl (gx_a u 20) p) 33 / vA (gx_a u 18) 32) 0 (dv (gx_a u 20 (p + 32))) v (by omega) (by omega) hx hPv (fun j hj => ho j (by omega)) ?_
  have hU : vA (sl (gx_a u 20) p) 33 = vA (sl (gx_a u 20) p) 32 + dv (gx_a u 20 (p + 32)) * 65536 ^ 32 := vA_s _ 32
  have hdm := Nat.div_add_mod (vA (sl (gx_a u 20) p) 33) (vA (gx_a u 18) 32)
  generalize vA (sl (gx_a u 20) p) 33 / vA (gx_a u 18) 32 = d at hlo hhi hdm ⊢
  generalize vA (sl (gx_a u 20) p) 33 % vA (gx_a u 18) 32 = r at hdm ⊢
  rw [Nat.mul_comm] at hdm
  have e : q * vA (gx_a u 18) 32 = d * vA (gx_a u 18) 32 + (q - d) * vA (gx_a u 18) 32 := by rw [← Nat.add_mul]; congr 1; omega
  omega
theorem c_X2_takeAway {l : Launch} {Z : gx_Z} {u : gx_S} {v0 : Nat} {v1 : Int32} {v2 : Int64} {post : gx_S → Prop} (h : S_X2_takeAway u v0 v1 v2 post) : Met l yX2_takeAway (Cond.code yX2_takeAway cX2_takeAway 9 none :: gx_TB) (gx_rm 1) (gx_Pre Z u [.ref (Z.2.1 v0), .int v1, .long v2]) (va_Qv post (gx_B Z) (gx_A Z)) 0 0 (gx_A Z) := by
  refine gx_met (by decide +kernel) (Nat.le_of_ble_eq_true rfl) ?_
  intro E X hZ hQ hD hL
  subst hZ
  exact w_X2_takeAway X (Nat.le_of_eq hD.symm) hQ h
-- PlainSeal$Modular.divideProduct()V
theorem dX2_divideProduct_0 : decode cX2_divideProduct 0 = .ok (.bipush 31, 2) := by decide +kernel
theorem dX2_divideProduct_2 : decode cX2_divideProduct 2 = .ok (.istore_n 1, 1) := by decide +kernel
theorem dX2_divideProduct_3 : decode cX2_divideProduct 3 = .ok (.iload_n 1, 1) := by decide +kernel
theorem dX2_divideProduct_4 : decode cX2_divideProduct 4 = .ok (.ifCond .lt 19, 3) := by decide +kernel
theorem dX2_divideProduct_7 : decode cX2_divideProduct 7 = .ok (.aload_n 0, 1) := by decide +kernel
theorem dX2_divideProduct_8 : decode cX2_divideProduct 8 = .ok (.iload_n 1, 1) := by decide +kernel
theorem dX2_divideProduct_9 : decode cX2_divideProduct 9 = .ok (.aload_n 0, 1) := by decide +kernel
theorem dX2_divideProduct_10 : decode cX2_divideProduct 10 = .ok (.iload_n 1, 1) := by decide +kernel
theorem dX2_divideProduct_11 : decode cX2_divideProduct 11 = .ok (.invokevirtual 55, 3) := by decide +kernel
theorem dX2_divideProduct_14 : decode cX2_divideProduct 14 = .ok (.invokevirtual 59, 3) := by decide +kernel
theorem dX2_divideProduct_17 : decode cX2_divideProduct 17 = .ok (.iinc 1 (-1), 3) := by decide +kernel
theorem dX2_divideProduct_20 : decode cX2_divideProduct 20 = .ok (.goto (-17), 3) := by decide +kernel
theorem dX2_divideProduct_23 : decode cX2_divideProduct 23 = .ok (.iconst 0, 1) := by decide +kernel
theorem dX2_divideProduct_24 : decode cX2_divideProduct 24 = .ok (.istore_n 1, 1) := by decide +kernel
theorem dX2_divideProduct_25 : decode cX2_divideProduct 25 = .ok (.iload_n 1, 1) := by decide +kernel
theorem dX2_divideProduct_26 : decode cX2_divideProduct 26 = .ok (.bipush 32, 2) := by decide +kernel
theorem dX2_divideProduct_28 : decode cX2_divideProduct 28 = .ok (.if_icmp .ge 21, 3) := by decide +kernel
theorem dX2_divideProduct_31 : decode cX2_divideProduct 31 = .ok (.aload_n 0, 1) := by decide +kernel
theorem dX2_divideProduct_32 : decode cX2_divideProduct 32 = .ok (.getfield 16, 3) := by decide +kernel
theorem dX2_divideProduct_35 : decode cX2_divideProduct 35 = .ok (.iload_n 1, 1) := by decide +kernel
theorem dX2_divideProduct_36 : decode cX2_divideProduct 36 = .ok (.aload_n 0, 1) := by decide +kernel
theorem dX2_divideProduct_37 : decode cX2_divideProduct 37 = .ok (.getfield 19, 3) := by decide +kernel
theorem dX2_divideProduct_40 : decode cX2_divideProduct 40 = .ok (.iload_n 1, 1) := by decide +kernel
theorem dX2_divideProduct_41 : decode cX2_divideProduct 41 = .ok (.iaload, 1) := by decide +kernel
theorem dX2_divideProduct_42 : decode cX2_divideProduct 42 = .ok (.iastore, 1) := by decide +kernel
theorem dX2_divideProduct_43 : decode cX2_divideProduct 43 = .ok (.iinc 1 1, 3) := by decide +kernel
theorem dX2_divideProduct_46 : decode cX2_divideProduct 46 = .ok (.goto (-21), 3) := by decide +kernel
theorem dX2_divideProduct_49 : decode cX2_divideProduct 49 = .ok (.return_, 1) := by decide +kernel
theorem hyX2_divideProduct : yX2_divideProduct.cls ≠ "java/lang/invoke/MethodHandle" ∧ yX2_divideProduct.cls ≠ "java/lang/invoke/VarHandle" ∧ (parseMethodDescriptor yX2_divideProduct.desc).map (fun d => d.parameters.length) = some 0 := by decide +kernel
abbrev J_X2_divideProduct_3 (E : gx_E) (v0 : Nat) (v1 : Int32) (u : gx_S) : Prop := gx_Wc E 2 3 [(0, .ref (ex_ad E v0)), (1, .int v1)] [] u
abbrev J_X2_divideProduct_25 (E : gx_E) (v0 : Nat) (v1 : Int32) (u : gx_S) : Prop := gx_Wc E 2 25 [(0, .ref (ex_ad E v0)), (1, .int v1)] [] u
set_option maxHeartbeats 4000000 in
set_option maxRecDepth 100000 in
theorem w_X2_divideProduct_0 {E : gx_E} (X : gx_X E cX2_divideProduct 2 RX2 none) (hd : 2 ≤ ex_d E) {post : gx_S → Prop} (hQ : ex_Q E = va_Qv post (gx_B (ex_Z E)) (gx_A (ex_Z E))) {u : gx_S} {v0 : Nat} (h : J_X2_divideProduct_3 E v0 (31 : Int32) u) : gx_Wc E 2 0 [(0, .ref (ex_ad E v0))] [] u := by
  refine gx_bipush X (v := 31) dX2_divideProduct_0 (by decide) ?_
  refine gx_istore_n X (lv' := [(1, .int (31 : Int32)), (0, .ref (ex_ad E v0))]) dX2_divideProduct_2 rfl (by decide) rfl ?_
  exact gx_sub [1, 0] rfl h
set_option maxHeartbeats 4000000 in
set_option maxRecDepth 100000 in
theorem w_X2_divideProduct_3 {E : gx_E} (X : gx_X E cX2_divideProduct 2 RX2 none) (hd : 2 ≤ ex_d E) {post : gx_S → Prop} (hQ : ex_Q E = va_Qv post (gx_B (ex_Z E)) (gx_A (ex_Z E))) {u : gx_S} {v0 : Nat} {v1 : Int32} (h : ((v1 < 0 → J_X2_divideProduct_25 E v0 (0 : Int32) u) ∧ (¬ v1 < 0 → (gx_isO v0 2 ∧ S_X2_guessedDigit u v0 v1 (fun (r3 : Int64) (u2 : gx_S) => (S_X2_takeAway u2 v0 v1 r3 (fun (u4 : gx_S) => (∀ x5 : Int32, x5 = v1 + (-1) → J_X2_divideProduct_3 E v0 x5 u4)))))))) : gx_Wc E 2 3 [(0, .ref (ex_ad E v0)), (1, .int v1)] [] u := by
  refine gx_iload_n X (j := 1) dX2_divideProduct_3 rfl rfl ?_
  refine gx_if_lt X (tgt := 23) dX2_divideProduct_4 (by decide) (fun c6 => ?_) (fun c6 => ?_)
  · replace h := h.1 c6
    refine gx_iconst X (v := 0) dX2_divideProduct_23 (by decide) ?_
    refine gx_istore_n X (lv' := [(1, .int (0 : Int32)), (0, .ref (ex_ad E v0))]) dX2_divideProduct_24 rfl (by decide) rfl ?_
    exact gx_sub [1, 0] rfl h
  · replace h := h.2 c6
    refine gx_aload_n X (j := 0) dX2_divideProduct_7 rfl rfl ?_
    refine gx_iload_n X (j := 1) dX2_divideProduct_8 rfl rfl ?_
    refine gx_aload_n X (j := 0) dX2_divideProduct_9 rfl rfl ?_
    refine gx_iload_n X (j := 1) dX2_divideProduct_10 rfl rfl ?_
    obtain ⟨k1, h⟩ := h
    refine gx_kl (gx_rV X (c_X2_guessedDigit h) (Nat.le_trans (by decide) hd) (Nat.le_trans (by decide) (Nat.mul_le_mul_left 40 hd)) k1 rfl mw_395 mw_397 mp_7 mw_6 mw_398 hyX2_guessedDigit (As := [.int v1]) (rest := [.int v1, .ref (ex_ad E v0)]) rfl rfl (Nat.le_of_ble_eq_true rfl) dX2_divideProduct_11) (fun r3 u2 h => ?_)
    refine gx_kv (gx_rV X (c_X2_takeAway h) (Nat.le_trans (by decide) hd) (Nat.le_trans (by decide) (Nat.mul_le_mul_left 40 hd)) k1 rfl mw_404 mw_406 mp_8 mw_6 mw_407 hyX2_takeAway (As := [.int v1, .long r3]) (rest := []) rfl rfl (Nat.le_of_ble_eq_true rfl) dX2_divideProduct_14) (fun u4 h => ?_)
    obtain ⟨x5, ex5⟩ : ∃ y : Int32, y = v1 + (-1) := ⟨_, rfl⟩
    replace h := h x5 ex5
    refine gx_iinc X (v := x5) (lv' := [(1, .int x5), (0, .ref (ex_ad E v0))]) dX2_divideProduct_17 (j := 1) rfl (by rw [ex5]; rfl) (by decide) rfl ?_
    refine gx_goto X (tgt := 3) dX2_divideProduct_20 (by decide) ?_
    exact gx_sub [1, 0] rfl h
set_option maxHeartbeats 4000000 in
set_option maxRecDepth 100000 in
theorem w_X2_divideProduct_25 {E : gx_E} (X : gx_X E cX2_divideProduct 2 RX2 none) (hd : 2 ≤ ex_d E) {post : gx_S → Prop} (hQ : ex_Q E = va_Qv post (gx_B (ex_Z E)) (gx_A (ex_Z E))) {u : gx_S} {v0 : Nat} {v1 : Int32} (h : (((32 : Int32) ≤ v1 → post u) ∧ (¬ (32 : Int32) ≤ v1 → (gx_isO v0 2 ∧ (gx_isR (gx_r u v0 3) .int ∧ vp_in v1 (gx_len (gx_r u v0 3)) ∧ (gx_isA (gx_r u v0 2) .int ∧ vp_in v1 (gx_len (gx_r u v0 2)) ∧ ∀ u6 : gx_S, u6 = gx_pa u (gx_r u v0 2) (upd (gx_a u (gx_r u v0 2)) v1.toNatClampNeg (gx_a u (gx_r u v0 3) v1.toNatClampNeg)) → (∀ x7 : Int32, x7 = v1 + 1 → J_X2_divideProduct_25 E v0 x7 u6))))))) : gx_Wc E 2 25 [(0, .ref (ex_ad E v0)), (1, .int v1)] [] u := by
  refine gx_iload_n X (j := 1) dX2_divideProduct_25 rfl rfl ?_
  refine gx_bipush X (v := 32) dX2_divideProduct_26 (by decide) ?_
  refine gx_icmp_ge X (tgt := 49) dX2_divideProduct_28 (by decide) (fun c8 => ?_) (fun c8 => ?_)
  · replace h := h.1 c8
    exact gx_vret X hQ h dX2_divideProduct_49
  · replace h := h.2 c8
    refine gx_aload_n X (j := 0) dX2_divideProduct_31 rfl rfl ?_
    obtain ⟨k1, h⟩ := h
    refine gx_get X k1 rfl iwX2 2 (by decide) mw_93 (v := .ref (ex_ad E (gx_r u v0 2))) rfl dX2_divideProduct_32 ?_
    refine gx_iload_n X (j := 1) dX2_divideProduct_35 rfl rfl ?_
    refine gx_aload_n X (j := 0) dX2_divideProduct_36 rfl rfl ?_
    refine gx_get X k1 rfl iwX2 3 (by decide) mw_94 (v := .ref (ex_ad E (gx_r u v0 3))) rfl dX2_divideProduct_37 ?_
    refine gx_iload_n X (j := 1) dX2_divideProduct_40 rfl rfl ?_
    obtain ⟨k2, h⟩ := h
    obtain ⟨k3, h⟩ := h
    refine gx_iald X k2 k3 dX2_divideProduct_41 ?_
    obtain ⟨k4, h⟩ := h
    obtain ⟨k5, h⟩ := h
    refine gx_iast X k4 k5 dX2_divideProduct_42 ?_
    refine gx_nams (fun u6 eu6 => ?_)
    replace h := h u6 eu6
    obtain ⟨x7, ex7⟩ : ∃ y : Int32, y = v1 + 1 := ⟨_, rfl⟩
    replace h := h x7 ex7
    refine gx_iinc X (v := x7) (lv' := [(1, .int x7), (0, .ref (ex_ad E v0))]) dX2_divideProduct_43 (j := 1) rfl (by rw [ex7]; rfl) (by decide) rfl ?_
    refine gx_goto X (tgt := 25) dX2_divideProduct_46 (by decide) ?_
    exact gx_sub [1, 0] rfl h
def S_X2_divideProduct (u : gx_S) (v0 : Nat) (post : gx_S → Prop) : Prop := v0 = 8 ∧ cfix u ∧ okD (gx_a u 20) 64 ∧ okD (gx_a u 18) 32 ∧ 32768 ≤ dv (gx_a u 18 31) ∧ vA (sl (gx_a u 20) 32) 32 < vA (gx_a u 18) 32 ∧ ∀ u', exA [19, 20] u u' → okD (gx_a u' 19) 32 → vA (gx_a u' 19) 32 = vA (gx_a u 20) 64 % vA (gx_a u 18) 32 → post u'
theorem M_pos {a : Nat → Int32} (hm : 32768 ≤ dv (a 31)) : 0 < vA a 32 := by
  rw [vA_s a 31]
  have h1 : 32768 * 65536 ^ 31 ≤ dv (a 31) * 65536 ^ 31 := Nat.mul_le_mul_right _ hm
  have h2 : 0 < 65536 ^ 31 := Nat.pow_pos (by omega)
  omega
theorem lp2_X2_divideProduct {E : gx_E} (X : gx_X E cX2_divideProduct 2 RX2 none) (hd : 2 ≤ ex_d E) {post : gx_S → Prop} (hQ : ex_Q E = va_Qv post (gx_B (ex_Z E)) (gx_A (ex_Z E))) {u0 : gx_S} {V : Nat} (hf0 : cfix u0) (hh : ∀ u', exA [19, 20] u0 u' → okD (gx_a u' 19) 32 → vA (gx_a u' 19) 32 = V → post u') :
    ∀ (n i : Nat) (u : gx_S), 32 - i = n → i ≤ 32 → exA [19, 20] u0 u → okD (gx_a u 20) 64 → vA (gx_a u 20) 32 = V → (∀ j, j < i → gx_a u 19 j = gx_a u 20 j) → J_X2_divideProduct_25 E 8 (nI i) u := by
  intro n
  induction n with
  | zero =>
    intro i u hn hi hx hP hv hc
    exact w_X2_divideProduct_25 X hd hQ ⟨fun _ => hh u hx (fun j hj => by rw [hc j (by omega)]; exact hP j (by omega)) (by rw [← hv]; exact vA_cg 32 (fun j hj => hc j (by omega))), fun q => absurd (nI_le (a := 32) (by omega) (by omega)) q⟩
  | succ n ih =>
    intro i u hn hi hx hP hv hc
    have e3 : gx_r u 8 3 = 20 := (exA_r hx 8 3).trans (hf0 8 3 (by decide))
    have e2 : gx_r u 8 2 = 19 := (exA_r hx 8 2).trans (hf0 8 2 (by decide))
    refine w_X2_divideProduct_25 X hd hQ ⟨fun q => absurd q (nI_ge (b := 32) (by omega) (by omega)), fun _ => ?_⟩
    rw [e3, e2]
    refine ⟨isO_x 8 2 (by decide), isA20.r, in20 (by omega), isA19, in32 rfl (by omega), ?_⟩
    rintro u6 rfl x7 rfl
    rw [nI_1, nI_clamp (by omega)]
    refine ih (i + 1) _ (by omega) (by omega) (exA_tr hx (exA_pa _ _ (by simp))) ?_ ?_ (fun j hj => ?_)
    · rw [gx_a_pa, if_neg (by decide)]; exact hP
    · rw [gx_a_pa, if_neg (by decide)]; exact hv
    · rw [gx_a_pa, if_pos rfl, gx_a_pa, if_neg (by decide)]
      by_cases e : j = i
      · rw [e, pk_us]
      · rw [pk_un e]; exact hc j (by omega)
theorem lp1_X2_divideProduct {E : gx_E} (X : gx_X E cX2_divideProduct 2 RX2 none) (hd : 2 ≤ ex_d E) {post : gx_S → Prop} (hQ : ex_Q E = va_Qv post (gx_B (ex_Z E)) (gx_A (ex_Z E))) {u0 : gx_S} {V : Nat} (hf0 : cfix u0) (hM : okD (gx_a u0 18) 32) (hm : 32768 ≤ dv (gx_a u0 18 31)) (hh : ∀ u', exA [19, 20] u0 u' → okD (gx_a u' 19) 32 → vA (gx_a u' 19) 32 = V % vA (gx_a u0 18) 32 → post u') :
    ∀ (p : Nat) (u : gx_S), p ≤ 32 → exA [19, 20] u0 u → okD (gx_a u 20) 64 → vA (sl (gx_a u 20) p) 32 < vA (gx_a u0 18) 32 → vA (gx_a u 20) (p + 32) % vA (gx_a u0 18) 32 = V % vA (gx_a u0 18) 32 → J_X2_divideProduct_3 E 8 (nI p - 1) u := by
  have hpos := M_pos hm
  intro p
  induction p with
  | zero =>
    intro u hp hx hP hlt hv
    refine w_X2_divideProduct_3 X hd hQ ⟨fun _ => ?_, fun q => absurd neg1 q⟩
    have e : vA (sl (gx_a u 20) 0) 32 = vA (gx_a u 20) 32 := vA_cg 32 (fun j _ => by unfold sl; rw [Nat.zero_add])
    rw [e] at hlt
    refine lp2_X2_divideProduct X hd hQ hf0 hh 32 0 u (by omega) (by omega) hx hP ?_ (fun j hj => by omega)
    rw [← hv, Nat.zero_add, Nat.mod_eq_of_lt hlt]
  | succ p ih =>
    intro u hp hx hP hlt hv
    have e1 : gx_a u 18 = gx_a u0 18 := hx.2.2.2 18 (by decide)
    have hf := exA_cfix hx hf0
    rw [nI_pred]
    have hU : vA (sl (gx_a u 20) p) 33 < 65536 * vA (gx_a u0 18) 32 := by
      have h1 : vA (sl (gx_a u 20) p) 33 = vA (sl (gx_a u 20) p) 1 + 65536 ^ 1 * vA (sl (sl (gx_a u 20) p) 1) 32 := vA_sl (sl (gx_a u 20) p) 1 32
      have h2 : vA (sl (sl (gx_a u 20) p) 1) 32 = vA (sl (gx_a u 20) (p + 1)) 32 := vA_cg 32 (fun j _ => by unfold sl; rw [Nat.add_assoc])
      have h3 : vA (sl (gx_a u 20) p) 1 < 65536 ^ 1 := vA_lt 1 (okD_sl hP (by omega))
      rw [h1, h2]
      omega
    refine w_X2_divideProduct_3 X hd hQ ⟨fun q => absurd q (nI_pos (by omega)), fun _ => ⟨isO_x 8 2 (by decide), i_X2_guessedDigit hf (by omega) hP (by rw [e1]; exact hM) (by rw [e1]; exact hm) (by rw [e1]; exact hU) (fun q hq h1 h2 => ?_)⟩⟩
    rw [e1] at h1 h2
    refine ⟨rfl, hf, p, q, by omega, rfl, rfl, hq, hP, by rw [e1]; exact hM, by rw [e1]; exact hpos, by rw [e1]; exact h1, by rw [e1]; exact h2, ?_⟩
    intro u' hx' hP' ho' hz' hv'
    rw [e1] at hv'
    intro x5 e5
    rw [← Int32.sub_eq_add_neg] at e5
    subst e5
    refine ih u' (by omega) (exA_tr hx (exA_wk hx' (by simp))) hP' ?_ ?_
    · rw [hv']; exact Nat.mod_lt _ hpos
    · rw [← hv, vA_sl (gx_a u' 20) p 32, hv', show p + 1 + 32 = p + 33 by omega, vA_sl (gx_a u 20) p 33, vA_cg (a := gx_a u' 20) (b := gx_a u 20) p (fun j hj => ho' j (by omega)), Nat.add_mod, Nat.mul_mod, Nat.mod_mod, ← Nat.mul_mod, ← Nat.add_mod]
theorem w_X2_divideProduct {E : gx_E} (X : gx_X E cX2_divideProduct 2 RX2 none) (hd : 2 ≤ ex_d E) {post : gx_S → Prop} (hQ : ex_Q E = va_Qv post (gx_B (ex_Z E)) (gx_A (ex_Z E))) {u : gx_S} {v0 : Nat} (h : S_X2_divideProduct u v0 post) : gx_Wc E 2 0 [(0, .ref (ex_ad E v0))] [] u := by
  obtain ⟨rfl, hf, hP, hM, hm, hlt, hh⟩ := h
  exact w_X2_divideProduct_0 X hd hQ (lp1_X2_divideProduct X hd hQ (V := vA (gx_a u 20) 64) hf hM hm hh 32 u (by omega) (exA_rf _ _) hP hlt rfl)
theorem c_X2_divideProduct {l : Launch} {Z : gx_Z} {u : gx_S} {v0 : Nat} {post : gx_S → Prop} (h : S_X2_divideProduct u v0 post) : Met l yX2_divideProduct (Cond.code yX2_divideProduct cX2_divideProduct 2 none :: gx_TB) (gx_rm 2) (gx_Pre Z u [.ref (Z.2.1 v0)]) (va_Qv post (gx_B Z) (gx_A Z)) 0 0 (gx_A Z) := by
  refine gx_met (by decide +kernel) (Nat.le_of_ble_eq_true rfl) ?_
  intro E X hZ hQ hD hL
  subst hZ
  exact w_X2_divideProduct X (Nat.le_of_eq hD.symm) hQ h

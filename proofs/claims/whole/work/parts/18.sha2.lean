-- PlainSeal$Sha256.fillSchedule(LPlainSeal$Bytes;IZ)V
theorem dX3_fillSchedule_0 : decode cX3_fillSchedule 0 = .ok (.iconst 0, 1) := by decide +kernel
theorem dX3_fillSchedule_1 : decode cX3_fillSchedule 1 = .ok (.istore 4, 2) := by decide +kernel
theorem dX3_fillSchedule_3 : decode cX3_fillSchedule 3 = .ok (.iload 4, 2) := by decide +kernel
theorem dX3_fillSchedule_5 : decode cX3_fillSchedule 5 = .ok (.bipush 16, 2) := by decide +kernel
theorem dX3_fillSchedule_7 : decode cX3_fillSchedule 7 = .ok (.if_icmp .ge 26, 3) := by decide +kernel
theorem dX3_fillSchedule_10 : decode cX3_fillSchedule 10 = .ok (.aload_n 0, 1) := by decide +kernel
theorem dX3_fillSchedule_11 : decode cX3_fillSchedule 11 = .ok (.getfield 16, 3) := by decide +kernel
theorem dX3_fillSchedule_14 : decode cX3_fillSchedule 14 = .ok (.iload 4, 2) := by decide +kernel
theorem dX3_fillSchedule_16 : decode cX3_fillSchedule 16 = .ok (.aload_n 1, 1) := by decide +kernel
theorem dX3_fillSchedule_17 : decode cX3_fillSchedule 17 = .ok (.iload_n 2, 1) := by decide +kernel
theorem dX3_fillSchedule_18 : decode cX3_fillSchedule 18 = .ok (.iconst 4, 1) := by decide +kernel
theorem dX3_fillSchedule_19 : decode cX3_fillSchedule 19 = .ok (.iload 4, 2) := by decide +kernel
theorem dX3_fillSchedule_21 : decode cX3_fillSchedule 21 = .ok (.imul, 1) := by decide +kernel
theorem dX3_fillSchedule_22 : decode cX3_fillSchedule 22 = .ok (.iadd, 1) := by decide +kernel
theorem dX3_fillSchedule_23 : decode cX3_fillSchedule 23 = .ok (.invokestatic 48, 3) := by decide +kernel
theorem dX3_fillSchedule_26 : decode cX3_fillSchedule 26 = .ok (.iastore, 1) := by decide +kernel
theorem dX3_fillSchedule_27 : decode cX3_fillSchedule 27 = .ok (.iinc 4 1, 3) := by decide +kernel
theorem dX3_fillSchedule_30 : decode cX3_fillSchedule 30 = .ok (.goto (-27), 3) := by decide +kernel
theorem dX3_fillSchedule_33 : decode cX3_fillSchedule 33 = .ok (.iload_n 3, 1) := by decide +kernel
theorem dX3_fillSchedule_34 : decode cX3_fillSchedule 34 = .ok (.ifCond .eq 17, 3) := by decide +kernel
theorem dX3_fillSchedule_37 : decode cX3_fillSchedule 37 = .ok (.aload_n 0, 1) := by decide +kernel
theorem dX3_fillSchedule_38 : decode cX3_fillSchedule 38 = .ok (.getfield 16, 3) := by decide +kernel
theorem dX3_fillSchedule_41 : decode cX3_fillSchedule 41 = .ok (.bipush 15, 2) := by decide +kernel
theorem dX3_fillSchedule_43 : decode cX3_fillSchedule 43 = .ok (.aload_n 1, 1) := by decide +kernel
theorem dX3_fillSchedule_44 : decode cX3_fillSchedule 44 = .ok (.invokevirtual 19, 3) := by decide +kernel
theorem dX3_fillSchedule_47 : decode cX3_fillSchedule 47 = .ok (.bipush 8, 2) := by decide +kernel
theorem dX3_fillSchedule_49 : decode cX3_fillSchedule 49 = .ok (.imul, 1) := by decide +kernel
theorem dX3_fillSchedule_50 : decode cX3_fillSchedule 50 = .ok (.iastore, 1) := by decide +kernel
theorem dX3_fillSchedule_51 : decode cX3_fillSchedule 51 = .ok (.bipush 16, 2) := by decide +kernel
theorem dX3_fillSchedule_53 : decode cX3_fillSchedule 53 = .ok (.istore 4, 2) := by decide +kernel
theorem dX3_fillSchedule_55 : decode cX3_fillSchedule 55 = .ok (.iload 4, 2) := by decide +kernel
theorem dX3_fillSchedule_57 : decode cX3_fillSchedule 57 = .ok (.bipush 64, 2) := by decide +kernel
theorem dX3_fillSchedule_59 : decode cX3_fillSchedule 59 = .ok (.if_icmp .ge 111, 3) := by decide +kernel
theorem dX3_fillSchedule_62 : decode cX3_fillSchedule 62 = .ok (.aload_n 0, 1) := by decide +kernel
theorem dX3_fillSchedule_63 : decode cX3_fillSchedule 63 = .ok (.getfield 16, 3) := by decide +kernel
theorem dX3_fillSchedule_66 : decode cX3_fillSchedule 66 = .ok (.iload 4, 2) := by decide +kernel
theorem dX3_fillSchedule_68 : decode cX3_fillSchedule 68 = .ok (.iconst 2, 1) := by decide +kernel
theorem dX3_fillSchedule_69 : decode cX3_fillSchedule 69 = .ok (.isub, 1) := by decide +kernel
theorem dX3_fillSchedule_70 : decode cX3_fillSchedule 70 = .ok (.iaload, 1) := by decide +kernel
theorem dX3_fillSchedule_71 : decode cX3_fillSchedule 71 = .ok (.istore 5, 2) := by decide +kernel
theorem dX3_fillSchedule_73 : decode cX3_fillSchedule 73 = .ok (.aload_n 0, 1) := by decide +kernel
theorem dX3_fillSchedule_74 : decode cX3_fillSchedule 74 = .ok (.getfield 16, 3) := by decide +kernel
theorem dX3_fillSchedule_77 : decode cX3_fillSchedule 77 = .ok (.iload 4, 2) := by decide +kernel
theorem dX3_fillSchedule_79 : decode cX3_fillSchedule 79 = .ok (.bipush 15, 2) := by decide +kernel
theorem dX3_fillSchedule_81 : decode cX3_fillSchedule 81 = .ok (.isub, 1) := by decide +kernel
theorem dX3_fillSchedule_82 : decode cX3_fillSchedule 82 = .ok (.iaload, 1) := by decide +kernel
theorem dX3_fillSchedule_83 : decode cX3_fillSchedule 83 = .ok (.istore 6, 2) := by decide +kernel
theorem dX3_fillSchedule_85 : decode cX3_fillSchedule 85 = .ok (.iload 5, 2) := by decide +kernel
theorem dX3_fillSchedule_87 : decode cX3_fillSchedule 87 = .ok (.bipush 17, 2) := by decide +kernel
theorem dX3_fillSchedule_89 : decode cX3_fillSchedule 89 = .ok (.invokestatic 52, 3) := by decide +kernel
theorem dX3_fillSchedule_92 : decode cX3_fillSchedule 92 = .ok (.iload 5, 2) := by decide +kernel
theorem dX3_fillSchedule_94 : decode cX3_fillSchedule 94 = .ok (.bipush 19, 2) := by decide +kernel
theorem dX3_fillSchedule_96 : decode cX3_fillSchedule 96 = .ok (.invokestatic 52, 3) := by decide +kernel
theorem dX3_fillSchedule_99 : decode cX3_fillSchedule 99 = .ok (.ixor, 1) := by decide +kernel
theorem dX3_fillSchedule_100 : decode cX3_fillSchedule 100 = .ok (.iload 5, 2) := by decide +kernel
theorem dX3_fillSchedule_102 : decode cX3_fillSchedule 102 = .ok (.bipush 10, 2) := by decide +kernel
theorem dX3_fillSchedule_104 : decode cX3_fillSchedule 104 = .ok (.iushr, 1) := by decide +kernel
theorem dX3_fillSchedule_105 : decode cX3_fillSchedule 105 = .ok (.ixor, 1) := by decide +kernel
theorem dX3_fillSchedule_106 : decode cX3_fillSchedule 106 = .ok (.istore 7, 2) := by decide +kernel
theorem dX3_fillSchedule_108 : decode cX3_fillSchedule 108 = .ok (.iload 6, 2) := by decide +kernel
theorem dX3_fillSchedule_110 : decode cX3_fillSchedule 110 = .ok (.bipush 7, 2) := by decide +kernel
theorem dX3_fillSchedule_112 : decode cX3_fillSchedule 112 = .ok (.invokestatic 52, 3) := by decide +kernel
theorem dX3_fillSchedule_115 : decode cX3_fillSchedule 115 = .ok (.iload 6, 2) := by decide +kernel
theorem dX3_fillSchedule_117 : decode cX3_fillSchedule 117 = .ok (.bipush 18, 2) := by decide +kernel
theorem dX3_fillSchedule_119 : decode cX3_fillSchedule 119 = .ok (.invokestatic 52, 3) := by decide +kernel
theorem dX3_fillSchedule_122 : decode cX3_fillSchedule 122 = .ok (.ixor, 1) := by decide +kernel
theorem dX3_fillSchedule_123 : decode cX3_fillSchedule 123 = .ok (.iload 6, 2) := by decide +kernel
theorem dX3_fillSchedule_125 : decode cX3_fillSchedule 125 = .ok (.iconst 3, 1) := by decide +kernel
theorem dX3_fillSchedule_126 : decode cX3_fillSchedule 126 = .ok (.iushr, 1) := by decide +kernel
theorem dX3_fillSchedule_127 : decode cX3_fillSchedule 127 = .ok (.ixor, 1) := by decide +kernel
theorem dX3_fillSchedule_128 : decode cX3_fillSchedule 128 = .ok (.istore 8, 2) := by decide +kernel
theorem dX3_fillSchedule_130 : decode cX3_fillSchedule 130 = .ok (.aload_n 0, 1) := by decide +kernel
theorem dX3_fillSchedule_131 : decode cX3_fillSchedule 131 = .ok (.getfield 16, 3) := by decide +kernel
theorem dX3_fillSchedule_134 : decode cX3_fillSchedule 134 = .ok (.iload 4, 2) := by decide +kernel
theorem dX3_fillSchedule_136 : decode cX3_fillSchedule 136 = .ok (.iload 7, 2) := by decide +kernel
theorem dX3_fillSchedule_138 : decode cX3_fillSchedule 138 = .ok (.aload_n 0, 1) := by decide +kernel
theorem dX3_fillSchedule_139 : decode cX3_fillSchedule 139 = .ok (.getfield 16, 3) := by decide +kernel
theorem dX3_fillSchedule_142 : decode cX3_fillSchedule 142 = .ok (.iload 4, 2) := by decide +kernel
theorem dX3_fillSchedule_144 : decode cX3_fillSchedule 144 = .ok (.bipush 7, 2) := by decide +kernel
theorem dX3_fillSchedule_146 : decode cX3_fillSchedule 146 = .ok (.isub, 1) := by decide +kernel
theorem dX3_fillSchedule_147 : decode cX3_fillSchedule 147 = .ok (.iaload, 1) := by decide +kernel
theorem dX3_fillSchedule_148 : decode cX3_fillSchedule 148 = .ok (.iadd, 1) := by decide +kernel
theorem dX3_fillSchedule_149 : decode cX3_fillSchedule 149 = .ok (.iload 8, 2) := by decide +kernel
theorem dX3_fillSchedule_151 : decode cX3_fillSchedule 151 = .ok (.iadd, 1) := by decide +kernel
theorem dX3_fillSchedule_152 : decode cX3_fillSchedule 152 = .ok (.aload_n 0, 1) := by decide +kernel
theorem dX3_fillSchedule_153 : decode cX3_fillSchedule 153 = .ok (.getfield 16, 3) := by decide +kernel
theorem dX3_fillSchedule_156 : decode cX3_fillSchedule 156 = .ok (.iload 4, 2) := by decide +kernel
theorem dX3_fillSchedule_158 : decode cX3_fillSchedule 158 = .ok (.bipush 16, 2) := by decide +kernel
theorem dX3_fillSchedule_160 : decode cX3_fillSchedule 160 = .ok (.isub, 1) := by decide +kernel
theorem dX3_fillSchedule_161 : decode cX3_fillSchedule 161 = .ok (.iaload, 1) := by decide +kernel
theorem dX3_fillSchedule_162 : decode cX3_fillSchedule 162 = .ok (.iadd, 1) := by decide +kernel
theorem dX3_fillSchedule_163 : decode cX3_fillSchedule 163 = .ok (.iastore, 1) := by decide +kernel
theorem dX3_fillSchedule_164 : decode cX3_fillSchedule 164 = .ok (.iinc 4 1, 3) := by decide +kernel
theorem dX3_fillSchedule_167 : decode cX3_fillSchedule 167 = .ok (.goto (-112), 3) := by decide +kernel
theorem dX3_fillSchedule_170 : decode cX3_fillSchedule 170 = .ok (.return_, 1) := by decide +kernel
theorem hyX3_fillSchedule : yX3_fillSchedule.cls ≠ "java/lang/invoke/MethodHandle" ∧ yX3_fillSchedule.cls ≠ "java/lang/invoke/VarHandle" ∧ (parseMethodDescriptor yX3_fillSchedule.desc).map (fun d => d.parameters.length) = some 3 := by decide +kernel
abbrev J_X3_fillSchedule_3 (E : gx_E) (v0 : Nat) (v1 : Nat) (v2 : Int32) (v3 : Int32) (v4 : Int32) (u : gx_S) : Prop := gx_Wc E 9 3 [(0, .ref (ex_ad E v0)), (1, .ref (ex_ad E v1)), (2, .int v2), (3, .int v3), (4, .int v4)] [] u
abbrev J_X3_fillSchedule_55 (E : gx_E) (v0 : Nat) (v1 : Nat) (v2 : Int32) (v3 : Int32) (v4 : Int32) (u : gx_S) : Prop := gx_Wc E 9 55 [(0, .ref (ex_ad E v0)), (1, .ref (ex_ad E v1)), (2, .int v2), (3, .int v3), (4, .int v4)] [] u
set_option maxHeartbeats 4000000 in
set_option maxRecDepth 100000 in
theorem w_X3_fillSchedule_0 {E : gx_E} (X : gx_X E cX3_fillSchedule 9 RX3 none) (hd : 3 ≤ ex_d E) {post : gx_S → Prop} (hQ : ex_Q E = va_Qv post (gx_B (ex_Z E)) (gx_A (ex_Z E))) {u : gx_S} {v0 : Nat} {v1 : Nat} {v2 : Int32} {v3 : Int32} (h : J_X3_fillSchedule_3 E v0 v1 v2 v3 (0 : Int32) u) : gx_Wc E 9 0 [(0, .ref (ex_ad E v0)), (1, .ref (ex_ad E v1)), (2, .int v2), (3, .int v3)] [] u := by
  refine gx_iconst X (v := 0) dX3_fillSchedule_0 (by decide) ?_
  refine gx_istore X (lv' := [(4, .int (0 : Int32)), (0, .ref (ex_ad E v0)), (1, .ref (ex_ad E v1)), (2, .int v2), (3, .int v3)]) dX3_fillSchedule_1 (by decide) rfl ?_
  exact gx_sub [1, 2, 3, 4, 0] rfl h
set_option maxHeartbeats 4000000 in
set_option maxRecDepth 100000 in
theorem w_X3_fillSchedule_3 {E : gx_E} (X : gx_X E cX3_fillSchedule 9 RX3 none) (hd : 3 ≤ ex_d E) {post : gx_S → Prop} (hQ : ex_Q E = va_Qv post (gx_B (ex_Z E)) (gx_A (ex_Z E))) {u : gx_S} {v0 : Nat} {v1 : Nat} {v2 : Int32} {v3 : Int32} {v4 : Int32} (h : (((16 : Int32) ≤ v4 → ((v3 = 0 → J_X3_fillSchedule_55 E v0 v1 v2 v3 (16 : Int32) u) ∧ (¬ v3 = 0 → (gx_isO v0 3 ∧ (gx_isO v1 0 ∧ S_X0_size u v1 (fun (r4 : Int32) (u3 : gx_S) => (gx_isA (gx_r u v0 2) .int ∧ vp_in (15 : Int32) (gx_len (gx_r u v0 2)) ∧ ∀ u7 : gx_S, u7 = gx_pa u3 (gx_r u v0 2) (upd (gx_a u3 (gx_r u v0 2)) (15 : Int32).toNatClampNeg (r4 * (8 : Int32))) → J_X3_fillSchedule_55 E v0 v1 v2 v3 (16 : Int32) u7))))))) ∧ (¬ (16 : Int32) ≤ v4 → (gx_isO v0 3 ∧ (S_X3_paddedWord u v1 (v2 + ((4 : Int32) * v4)) (fun (r11 : Int32) (u10 : gx_S) => (gx_isA (gx_r u v0 2) .int ∧ vp_in v4 (gx_len (gx_r u v0 2)) ∧ ∀ u14 : gx_S, u14 = gx_pa u10 (gx_r u v0 2) (upd (gx_a u10 (gx_r u v0 2)) v4.toNatClampNeg r11) → (∀ x15 : Int32, x15 = v4 + 1 → J_X3_fillSchedule_3 E v0 v1 v2 v3 x15 u14)))))))) : gx_Wc E 9 3 [(0, .ref (ex_ad E v0)), (1, .ref (ex_ad E v1)), (2, .int v2), (3, .int v3), (4, .int v4)] [] u := by
  refine gx_iload X (j := 4) dX3_fillSchedule_3 rfl ?_
  refine gx_bipush X (v := 16) dX3_fillSchedule_5 (by decide) ?_
  refine gx_icmp_ge X (tgt := 33) dX3_fillSchedule_7 (by decide) (fun c16 => ?_) (fun c16 => ?_)
  · replace h := h.1 c16
    refine gx_iload_n X (j := 3) dX3_fillSchedule_33 rfl rfl ?_
    refine gx_if_eq X (tgt := 51) dX3_fillSchedule_34 (by decide) (fun c8 => ?_) (fun c8 => ?_)
    · replace h := h.1 c8
      refine gx_bipush X (v := 16) dX3_fillSchedule_51 (by decide) ?_
      refine gx_istore X (lv' := [(4, .int (16 : Int32)), (0, .ref (ex_ad E v0)), (1, .ref (ex_ad E v1)), (2, .int v2), (3, .int v3)]) dX3_fillSchedule_53 (by decide) rfl ?_
      exact gx_sub [1, 2, 3, 4, 0] rfl h
    · replace h := h.2 c8
      refine gx_aload_n X (j := 0) dX3_fillSchedule_37 rfl rfl ?_
      obtain ⟨k1, h⟩ := h
      refine gx_get X k1 rfl iwX3 2 (by decide) mw_77 (v := .ref (ex_ad E (gx_r u v0 2))) rfl dX3_fillSchedule_38 ?_
      refine gx_bipush X (v := 15) dX3_fillSchedule_41 (by decide) ?_
      refine gx_aload_n X (j := 1) dX3_fillSchedule_43 rfl rfl ?_
      obtain ⟨k2, h⟩ := h
      refine gx_ki (gx_rV X (c_X0_size h) (Nat.le_trans (by decide) hd) (Nat.le_trans (by decide) (Nat.mul_le_mul_left 40 hd)) k2 rfl mw_334 mw_128 mw_129 mw_2 mw_130 hyX0_size (As := []) (rest := [.int (15 : Int32), .ref (ex_ad E (gx_r u v0 2))]) rfl rfl (Nat.le_of_ble_eq_true rfl) dX3_fillSchedule_44) (fun r4 u3 h => ?_)
      refine gx_bipush X (v := 8) dX3_fillSchedule_47 (by decide) ?_
      refine gx_imul X dX3_fillSchedule_49 ?_
      obtain ⟨k5, h⟩ := h
      obtain ⟨k6, h⟩ := h
      refine gx_iast X k5 k6 dX3_fillSchedule_50 ?_
      refine gx_nams (fun u7 eu7 => ?_)
      replace h := h u7 eu7
      refine gx_bipush X (v := 16) dX3_fillSchedule_51 (by decide) ?_
      refine gx_istore X (lv' := [(4, .int (16 : Int32)), (0, .ref (ex_ad E v0)), (1, .ref (ex_ad E v1)), (2, .int v2), (3, .int v3)]) dX3_fillSchedule_53 (by decide) rfl ?_
      exact gx_sub [1, 2, 3, 4, 0] rfl h
  · replace h := h.2 c16
    refine gx_aload_n X (j := 0) dX3_fillSchedule_10 rfl rfl ?_
    obtain ⟨k9, h⟩ := h
    refine gx_get X k9 rfl iwX3 2 (by decide) mw_77 (v := .ref (ex_ad E (gx_r u v0 2))) rfl dX3_fillSchedule_11 ?_
    refine gx_iload X (j := 4) dX3_fillSchedule_14 rfl ?_
    refine gx_aload_n X (j := 1) dX3_fillSchedule_16 rfl rfl ?_
    refine gx_iload_n X (j := 2) dX3_fillSchedule_17 rfl rfl ?_
    refine gx_iconst X (v := 4) dX3_fillSchedule_18 (by decide) ?_
    refine gx_iload X (j := 4) dX3_fillSchedule_19 rfl ?_
    refine gx_imul X dX3_fillSchedule_21 ?_
    refine gx_iadd X dX3_fillSchedule_22 ?_
    refine gx_ki (gx_rS X (c_X3_paddedWord h) (Nat.le_trans (by decide) hd) (Nat.le_trans (by decide) (Nat.mul_le_mul_left 40 hd)) mw_344 mw_345 mw_5 mw_346 hyX3_paddedWord (As := [.ref (ex_ad E v1), .int (v2 + ((4 : Int32) * v4))]) (rest := [.int v4, .ref (ex_ad E (gx_r u v0 2))]) rfl rfl (Nat.le_of_ble_eq_true rfl) dX3_fillSchedule_23) (fun r11 u10 h => ?_)
    obtain ⟨k12, h⟩ := h
    obtain ⟨k13, h⟩ := h
    refine gx_iast X k12 k13 dX3_fillSchedule_26 ?_
    refine gx_nams (fun u14 eu14 => ?_)
    replace h := h u14 eu14
    obtain ⟨x15, ex15⟩ : ∃ y : Int32, y = v4 + 1 := ⟨_, rfl⟩
    replace h := h x15 ex15
    refine gx_iinc X (v := x15) (lv' := [(4, .int x15), (0, .ref (ex_ad E v0)), (1, .ref (ex_ad E v1)), (2, .int v2), (3, .int v3)]) dX3_fillSchedule_27 (j := 4) rfl (by rw [ex15]; rfl) (by decide) rfl ?_
    refine gx_goto X (tgt := 3) dX3_fillSchedule_30 (by decide) ?_
    exact gx_sub [1, 2, 3, 4, 0] rfl h
set_option maxHeartbeats 4000000 in
set_option maxRecDepth 100000 in
theorem w_X3_fillSchedule_55 {E : gx_E} (X : gx_X E cX3_fillSchedule 9 RX3 none) (hd : 3 ≤ ex_d E) {post : gx_S → Prop} (hQ : ex_Q E = va_Qv post (gx_B (ex_Z E)) (gx_A (ex_Z E))) {u : gx_S} {v0 : Nat} {v1 : Nat} {v2 : Int32} {v3 : Int32} {v4 : Int32} (h : (((64 : Int32) ≤ v4 → post u) ∧ (¬ (64 : Int32) ≤ v4 → (gx_isO v0 3 ∧ (gx_isR (gx_r u v0 2) .int ∧ vp_in (v4 - (2 : Int32)) (gx_len (gx_r u v0 2)) ∧ (∀ x4 : Int32, x4 = (gx_a u (gx_r u v0 2) (v4 - (2 : Int32)).toNatClampNeg) → (vp_in (v4 - (15 : Int32)) (gx_len (gx_r u v0 2)) ∧ (∀ x6 : Int32, x6 = (gx_a u (gx_r u v0 2) (v4 - (15 : Int32)).toNatClampNeg) → (S_X3_turned u x4 (17 : Int32) (fun (r8 : Int32) (u7 : gx_S) => (S_X3_turned u7 x4 (19 : Int32) (fun (r10 : Int32) (u9 : gx_S) => (∀ x11 : Int32, x11 = ((r8 ^^^ r10) ^^^ ((x4.toUInt32 >>> ((10 : Int32).toUInt32 &&& Int32.toUInt32 31)).toInt32)) → (S_X3_turned u9 x6 (7 : Int32) (fun (r13 : Int32) (u12 : gx_S) => (S_X3_turned u12 x6 (18 : Int32) (fun (r15 : Int32) (u14 : gx_S) => (∀ x16 : Int32, x16 = ((r13 ^^^ r15) ^^^ ((x6.toUInt32 >>> ((3 : Int32).toUInt32 &&& Int32.toUInt32 31)).toInt32)) → (gx_isR (gx_r u14 v0 2) .int ∧ vp_in (v4 - (7 : Int32)) (gx_len (gx_r u14 v0 2)) ∧ (vp_in (v4 - (16 : Int32)) (gx_len (gx_r u14 v0 2)) ∧ (gx_isA (gx_r u14 v0 2) .int ∧ vp_in v4 (gx_len (gx_r u14 v0 2)) ∧ ∀ u22 : gx_S, u22 = gx_pa u14 (gx_r u14 v0 2) (upd (gx_a u14 (gx_r u14 v0 2)) v4.toNatClampNeg (((x11 + (gx_a u14 (gx_r u14 v0 2) (v4 - (7 : Int32)).toNatClampNeg)) + x16) + (gx_a u14 (gx_r u14 v0 2) (v4 - (16 : Int32)).toNatClampNeg))) → (∀ x23 : Int32, x23 = v4 + 1 → J_X3_fillSchedule_55 E v0 v1 v2 v3 x23 u22)))))))))))))))))))))) : gx_Wc E 9 55 [(0, .ref (ex_ad E v0)), (1, .ref (ex_ad E v1)), (2, .int v2), (3, .int v3), (4, .int v4)] [] u := by
  refine gx_iload X (j := 4) dX3_fillSchedule_55 rfl ?_
  refine gx_bipush X (v := 64) dX3_fillSchedule_57 (by decide) ?_
  refine gx_icmp_ge X (tgt := 170) dX3_fillSchedule_59 (by decide) (fun c24 => ?_) (fun c24 => ?_)
  · replace h := h.1 c24
    exact gx_vret X hQ h dX3_fillSchedule_170
  · replace h := h.2 c24
    refine gx_aload_n X (j := 0) dX3_fillSchedule_62 rfl rfl ?_
    obtain ⟨k1, h⟩ := h
    refine gx_get X k1 rfl iwX3 2 (by decide) mw_77 (v := .ref (ex_ad E (gx_r u v0 2))) rfl dX3_fillSchedule_63 ?_
    refine gx_iload X (j := 4) dX3_fillSchedule_66 rfl ?_
    refine gx_iconst X (v := 2) dX3_fillSchedule_68 (by decide) ?_
    refine gx_isub X dX3_fillSchedule_69 ?_
    obtain ⟨k2, h⟩ := h
    obtain ⟨k3, h⟩ := h
    refine gx_iald X k2 k3 dX3_fillSchedule_70 ?_
    refine gx_nami (fun x4 ex4 => ?_)
    replace h := h x4 ex4
    refine gx_istore X (lv' := [(5, .int x4), (0, .ref (ex_ad E v0)), (1, .ref (ex_ad E v1)), (2, .int v2), (3, .int v3), (4, .int v4)]) dX3_fillSchedule_71 (by decide) rfl ?_
    refine gx_aload_n X (j := 1) dX3_fillSchedule_73 rfl rfl ?_
    refine gx_get X k1 rfl iwX3 2 (by decide) mw_77 (v := .ref (ex_ad E (gx_r u v0 2))) rfl dX3_fillSchedule_74 ?_
    refine gx_iload X (j := 5) dX3_fillSchedule_77 rfl ?_
    refine gx_bipush X (v := 15) dX3_fillSchedule_79 (by decide) ?_
    refine gx_isub X dX3_fillSchedule_81 ?_
    obtain ⟨k5, h⟩ := h
    refine gx_iald X k2 k5 dX3_fillSchedule_82 ?_
    refine gx_nami (fun x6 ex6 => ?_)
    replace h := h x6 ex6
    refine gx_istore X (lv' := [(6, .int x6), (5, .int x4), (0, .ref (ex_ad E v0)), (1, .ref (ex_ad E v1)), (2, .int v2), (3, .int v3), (4, .int v4)]) dX3_fillSchedule_83 (by decide) rfl ?_
    refine gx_iload X (j := 1) dX3_fillSchedule_85 rfl ?_
    refine gx_bipush X (v := 17) dX3_fillSchedule_87 (by decide) ?_
    refine gx_ki (gx_rS X (c_X3_turned h) (Nat.le_trans (by decide) hd) (Nat.le_trans (by decide) (Nat.mul_le_mul_left 40 hd)) mw_351 mw_352 mw_5 mw_353 hyX3_turned (As := [.int x4, .int (17 : Int32)]) (rest := []) rfl rfl (Nat.le_of_ble_eq_true rfl) dX3_fillSchedule_89) (fun r8 u7 h => ?_)
    refine gx_iload X (j := 1) dX3_fillSchedule_92 rfl ?_
    refine gx_bipush X (v := 19) dX3_fillSchedule_94 (by decide) ?_
    refine gx_ki (gx_rS X (c_X3_turned h) (Nat.le_trans (by decide) hd) (Nat.le_trans (by decide) (Nat.mul_le_mul_left 40 hd)) mw_351 mw_352 mw_5 mw_353 hyX3_turned (As := [.int x4, .int (19 : Int32)]) (rest := [.int r8]) rfl rfl (Nat.le_of_ble_eq_true rfl) dX3_fillSchedule_96) (fun r10 u9 h => ?_)
    refine gx_ixor X dX3_fillSchedule_99 ?_
    refine gx_iload X (j := 1) dX3_fillSchedule_100 rfl ?_
    refine gx_bipush X (v := 10) dX3_fillSchedule_102 (by decide) ?_
    refine gx_iushr X (v := (x4.toUInt32 >>> ((10 : Int32).toUInt32 &&& Int32.toUInt32 31)).toInt32) dX3_fillSchedule_104 rfl ?_
    refine gx_ixor X dX3_fillSchedule_105 ?_
    refine gx_nami (fun x11 ex11 => ?_)
    replace h := h x11 ex11
    refine gx_istore X (lv' := [(7, .int x11), (6, .int x6), (5, .int x4), (0, .ref (ex_ad E v0)), (1, .ref (ex_ad E v1)), (2, .int v2), (3, .int v3), (4, .int v4)]) dX3_fillSchedule_106 (by decide) rfl ?_
    refine gx_iload X (j := 1) dX3_fillSchedule_108 rfl ?_
    refine gx_bipush X (v := 7) dX3_fillSchedule_110 (by decide) ?_
    refine gx_ki (gx_rS X (c_X3_turned h) (Nat.le_trans (by decide) hd) (Nat.le_trans (by decide) (Nat.mul_le_mul_left 40 hd)) mw_351 mw_352 mw_5 mw_353 hyX3_turned (As := [.int x6, .int (7 : Int32)]) (rest := []) rfl rfl (Nat.le_of_ble_eq_true rfl) dX3_fillSchedule_112) (fun r13 u12 h => ?_)
    refine gx_iload X (j := 1) dX3_fillSchedule_115 rfl ?_
    refine gx_bipush X (v := 18) dX3_fillSchedule_117 (by decide) ?_
    refine gx_ki (gx_rS X (c_X3_turned h) (Nat.le_trans (by decide) hd) (Nat.le_trans (by decide) (Nat.mul_le_mul_left 40 hd)) mw_351 mw_352 mw_5 mw_353 hyX3_turned (As := [.int x6, .int (18 : Int32)]) (rest := [.int r13]) rfl rfl (Nat.le_of_ble_eq_true rfl) dX3_fillSchedule_119) (fun r15 u14 h => ?_)
    refine gx_ixor X dX3_fillSchedule_122 ?_
    refine gx_iload X (j := 1) dX3_fillSchedule_123 rfl ?_
    refine gx_iconst X (v := 3) dX3_fillSchedule_125 (by decide) ?_
    refine gx_iushr X (v := (x6.toUInt32 >>> ((3 : Int32).toUInt32 &&& Int32.toUInt32 31)).toInt32) dX3_fillSchedule_126 rfl ?_
    refine gx_ixor X dX3_fillSchedule_127 ?_
    refine gx_nami (fun x16 ex16 => ?_)
    replace h := h x16 ex16
    refine gx_istore X (lv' := [(8, .int x16), (7, .int x11), (6, .int x6), (5, .int x4), (0, .ref (ex_ad E v0)), (1, .ref (ex_ad E v1)), (2, .int v2), (3, .int v3), (4, .int v4)]) dX3_fillSchedule_128 (by decide) rfl ?_
    refine gx_aload_n X (j := 4) dX3_fillSchedule_130 rfl rfl ?_
    refine gx_get X k1 rfl iwX3 2 (by decide) mw_77 (v := .ref (ex_ad E (gx_r u14 v0 2))) rfl dX3_fillSchedule_131 ?_
    refine gx_iload X (j := 8) dX3_fillSchedule_134 rfl ?_
    refine gx_iload X (j := 1) dX3_fillSchedule_136 rfl ?_
    refine gx_aload_n X (j := 4) dX3_fillSchedule_138 rfl rfl ?_
    refine gx_get X k1 rfl iwX3 2 (by decide) mw_77 (v := .ref (ex_ad E (gx_r u14 v0 2))) rfl dX3_fillSchedule_139 ?_
    refine gx_iload X (j := 8) dX3_fillSchedule_142 rfl ?_
    refine gx_bipush X (v := 7) dX3_fillSchedule_144 (by decide) ?_
    refine gx_isub X dX3_fillSchedule_146 ?_
    obtain ⟨k17, h⟩ := h
    obtain ⟨k18, h⟩ := h
    refine gx_iald X k17 k18 dX3_fillSchedule_147 ?_
    refine gx_iadd X dX3_fillSchedule_148 ?_
    refine gx_iload X (j := 0) dX3_fillSchedule_149 rfl ?_
    refine gx_iadd X dX3_fillSchedule_151 ?_
    refine gx_aload_n X (j := 4) dX3_fillSchedule_152 rfl rfl ?_
    refine gx_get X k1 rfl iwX3 2 (by decide) mw_77 (v := .ref (ex_ad E (gx_r u14 v0 2))) rfl dX3_fillSchedule_153 ?_
    refine gx_iload X (j := 8) dX3_fillSchedule_156 rfl ?_
    refine gx_bipush X (v := 16) dX3_fillSchedule_158 (by decide) ?_
    refine gx_isub X dX3_fillSchedule_160 ?_
    obtain ⟨k19, h⟩ := h
    refine gx_iald X k17 k19 dX3_fillSchedule_161 ?_
    refine gx_iadd X dX3_fillSchedule_162 ?_
    obtain ⟨k20, h⟩ := h
    obtain ⟨k21, h⟩ := h
    refine gx_iast X k20 k21 dX3_fillSchedule_163 ?_
    refine gx_nams (fun u22 eu22 => ?_)
    replace h := h u22 eu22
    obtain ⟨x23, ex23⟩ : ∃ y : Int32, y = v4 + 1 := ⟨_, rfl⟩
    replace h := h x23 ex23
    refine gx_iinc X (v := x23) (lv' := [(4, .int x23), (8, .int x16), (7, .int x11), (6, .int x6), (5, .int x4), (0, .ref (ex_ad E v0)), (1, .ref (ex_ad E v1)), (2, .int v2), (3, .int v3)]) dX3_fillSchedule_164 (j := 8) rfl (by rw [ex23]; rfl) (by decide) rfl ?_
    refine gx_goto X (tgt := 55) dX3_fillSchedule_167 (by decide) ?_
    exact gx_sub [5, 6, 7, 8, 0] rfl h
-- PlainSeal$Sha256.mixBlock()V
theorem dX3_mixBlock_0 : decode cX3_mixBlock 0 = .ok (.aload_n 0, 1) := by decide +kernel
theorem dX3_mixBlock_1 : decode cX3_mixBlock 1 = .ok (.getfield 9, 3) := by decide +kernel
theorem dX3_mixBlock_4 : decode cX3_mixBlock 4 = .ok (.iconst 0, 1) := by decide +kernel
theorem dX3_mixBlock_5 : decode cX3_mixBlock 5 = .ok (.aload_n 0, 1) := by decide +kernel
theorem dX3_mixBlock_6 : decode cX3_mixBlock 6 = .ok (.getfield 13, 3) := by decide +kernel
theorem dX3_mixBlock_9 : decode cX3_mixBlock 9 = .ok (.iconst 0, 1) := by decide +kernel
theorem dX3_mixBlock_10 : decode cX3_mixBlock 10 = .ok (.bipush 8, 2) := by decide +kernel
theorem dX3_mixBlock_12 : decode cX3_mixBlock 12 = .ok (.invokestatic 28, 3) := by decide +kernel
theorem dX3_mixBlock_15 : decode cX3_mixBlock 15 = .ok (.iconst 0, 1) := by decide +kernel
theorem dX3_mixBlock_16 : decode cX3_mixBlock 16 = .ok (.istore_n 1, 1) := by decide +kernel
theorem dX3_mixBlock_17 : decode cX3_mixBlock 17 = .ok (.iload_n 1, 1) := by decide +kernel
theorem dX3_mixBlock_18 : decode cX3_mixBlock 18 = .ok (.bipush 64, 2) := by decide +kernel
theorem dX3_mixBlock_20 : decode cX3_mixBlock 20 = .ok (.if_icmp .ge 25, 3) := by decide +kernel
theorem dX3_mixBlock_23 : decode cX3_mixBlock 23 = .ok (.aload_n 0, 1) := by decide +kernel
theorem dX3_mixBlock_24 : decode cX3_mixBlock 24 = .ok (.getstatic 63, 3) := by decide +kernel
theorem dX3_mixBlock_27 : decode cX3_mixBlock 27 = .ok (.iload_n 1, 1) := by decide +kernel
theorem dX3_mixBlock_28 : decode cX3_mixBlock 28 = .ok (.iaload, 1) := by decide +kernel
theorem dX3_mixBlock_29 : decode cX3_mixBlock 29 = .ok (.aload_n 0, 1) := by decide +kernel
theorem dX3_mixBlock_30 : decode cX3_mixBlock 30 = .ok (.getfield 16, 3) := by decide +kernel
theorem dX3_mixBlock_33 : decode cX3_mixBlock 33 = .ok (.iload_n 1, 1) := by decide +kernel
theorem dX3_mixBlock_34 : decode cX3_mixBlock 34 = .ok (.iaload, 1) := by decide +kernel
theorem dX3_mixBlock_35 : decode cX3_mixBlock 35 = .ok (.iadd, 1) := by decide +kernel
theorem dX3_mixBlock_36 : decode cX3_mixBlock 36 = .ok (.invokevirtual 66, 3) := by decide +kernel
theorem dX3_mixBlock_39 : decode cX3_mixBlock 39 = .ok (.iinc 1 1, 3) := by decide +kernel
theorem dX3_mixBlock_42 : decode cX3_mixBlock 42 = .ok (.goto (-25), 3) := by decide +kernel
theorem dX3_mixBlock_45 : decode cX3_mixBlock 45 = .ok (.iconst 0, 1) := by decide +kernel
theorem dX3_mixBlock_46 : decode cX3_mixBlock 46 = .ok (.istore_n 1, 1) := by decide +kernel
theorem dX3_mixBlock_47 : decode cX3_mixBlock 47 = .ok (.iload_n 1, 1) := by decide +kernel
theorem dX3_mixBlock_48 : decode cX3_mixBlock 48 = .ok (.bipush 8, 2) := by decide +kernel
theorem dX3_mixBlock_50 : decode cX3_mixBlock 50 = .ok (.if_icmp .ge 24, 3) := by decide +kernel
theorem dX3_mixBlock_53 : decode cX3_mixBlock 53 = .ok (.aload_n 0, 1) := by decide +kernel
theorem dX3_mixBlock_54 : decode cX3_mixBlock 54 = .ok (.getfield 9, 3) := by decide +kernel
theorem dX3_mixBlock_57 : decode cX3_mixBlock 57 = .ok (.iload_n 1, 1) := by decide +kernel
theorem dX3_mixBlock_58 : decode cX3_mixBlock 58 = .ok (.dup2, 1) := by decide +kernel
theorem dX3_mixBlock_59 : decode cX3_mixBlock 59 = .ok (.iaload, 1) := by decide +kernel
theorem dX3_mixBlock_60 : decode cX3_mixBlock 60 = .ok (.aload_n 0, 1) := by decide +kernel
theorem dX3_mixBlock_61 : decode cX3_mixBlock 61 = .ok (.getfield 13, 3) := by decide +kernel
theorem dX3_mixBlock_64 : decode cX3_mixBlock 64 = .ok (.iload_n 1, 1) := by decide +kernel
theorem dX3_mixBlock_65 : decode cX3_mixBlock 65 = .ok (.iaload, 1) := by decide +kernel
theorem dX3_mixBlock_66 : decode cX3_mixBlock 66 = .ok (.iadd, 1) := by decide +kernel
theorem dX3_mixBlock_67 : decode cX3_mixBlock 67 = .ok (.iastore, 1) := by decide +kernel
theorem dX3_mixBlock_68 : decode cX3_mixBlock 68 = .ok (.iinc 1 1, 3) := by decide +kernel
theorem dX3_mixBlock_71 : decode cX3_mixBlock 71 = .ok (.goto (-24), 3) := by decide +kernel
theorem dX3_mixBlock_74 : decode cX3_mixBlock 74 = .ok (.return_, 1) := by decide +kernel
theorem hyX3_mixBlock : yX3_mixBlock.cls ≠ "java/lang/invoke/MethodHandle" ∧ yX3_mixBlock.cls ≠ "java/lang/invoke/VarHandle" ∧ (parseMethodDescriptor yX3_mixBlock.desc).map (fun d => d.parameters.length) = some 0 := by decide +kernel
abbrev J_X3_mixBlock_17 (E : gx_E) (v0 : Nat) (v1 : Int32) (u : gx_S) : Prop := gx_Wc E 2 17 [(0, .ref (ex_ad E v0)), (1, .int v1)] [] u
abbrev J_X3_mixBlock_47 (E : gx_E) (v0 : Nat) (v1 : Int32) (u : gx_S) : Prop := gx_Wc E 2 47 [(0, .ref (ex_ad E v0)), (1, .int v1)] [] u
set_option maxHeartbeats 4000000 in
set_option maxRecDepth 100000 in
theorem w_X3_mixBlock_0 {E : gx_E} (X : gx_X E cX3_mixBlock 2 RX3 none) (hd : 2 ≤ ex_d E) {post : gx_S → Prop} (hQ : ex_Q E = va_Qv post (gx_B (ex_Z E)) (gx_A (ex_Z E))) {u : gx_S} {v0 : Nat} (h : (gx_isO v0 3 ∧ (gx_isR (gx_r u v0 0) .int ∧ gx_isA (gx_r u v0 1) .int ∧ ¬ (0 : Int32) < 0 ∧ ¬ (0 : Int32) < 0 ∧ ¬ (8 : Int32) < 0 ∧ (0 : Int32).toNatClampNeg + (8 : Int32).toNatClampNeg ≤ gx_len (gx_r u v0 0) ∧ (0 : Int32).toNatClampNeg + (8 : Int32).toNatClampNeg ≤ gx_len (gx_r u v0 1) ∧ ∀ u9 : gx_S, u9 = gx_pa u (gx_r u v0 1) (va_cpy (gx_a u (gx_r u v0 0)) (gx_a u (gx_r u v0 1)) (0 : Int32).toNatClampNeg (0 : Int32).toNatClampNeg (8 : Int32).toNatClampNeg) → J_X3_mixBlock_17 E v0 (0 : Int32) u9))) : gx_Wc E 2 0 [(0, .ref (ex_ad E v0))] [] u := by
  refine gx_aload_n X (j := 0) dX3_mixBlock_0 rfl rfl ?_
  obtain ⟨k1, h⟩ := h
  refine gx_get X k1 rfl iwX3 0 (by decide) mw_75 (v := .ref (ex_ad E (gx_r u v0 0))) rfl dX3_mixBlock_1 ?_
  refine gx_iconst X (v := 0) dX3_mixBlock_4 (by decide) ?_
  refine gx_aload_n X (j := 0) dX3_mixBlock_5 rfl rfl ?_
  refine gx_get X k1 rfl iwX3 1 (by decide) mw_76 (v := .ref (ex_ad E (gx_r u v0 1))) rfl dX3_mixBlock_6 ?_
  refine gx_iconst X (v := 0) dX3_mixBlock_9 (by decide) ?_
  refine gx_bipush X (v := 8) dX3_mixBlock_10 (by decide) ?_
  obtain ⟨k2, h⟩ := h
  obtain ⟨k3, h⟩ := h
  obtain ⟨k4, k5, k6, k7, k8, h⟩ := h
  refine gx_copy X (Nat.le_trans (by decide) hd) k2 k3 rfl k4 k5 k6 k7 k8 mw_337 mw_339 mw_338 mw_12 (Nat.le_of_ble_eq_true rfl) dX3_mixBlock_12 ?_
  refine gx_nams (fun u9 eu9 => ?_)
  replace h := h u9 eu9
  refine gx_iconst X (v := 0) dX3_mixBlock_15 (by decide) ?_
  refine gx_istore_n X (lv' := [(1, .int (0 : Int32)), (0, .ref (ex_ad E v0))]) dX3_mixBlock_16 rfl (by decide) rfl ?_
  exact gx_sub [1, 0] rfl h
set_option maxHeartbeats 4000000 in
set_option maxRecDepth 100000 in
theorem w_X3_mixBlock_17 {E : gx_E} (X : gx_X E cX3_mixBlock 2 RX3 none) (hd : 2 ≤ ex_d E) {post : gx_S → Prop} (hQ : ex_Q E = va_Qv post (gx_B (ex_Z E)) (gx_A (ex_Z E))) {u : gx_S} {v0 : Nat} {v1 : Int32} (h : (((64 : Int32) ≤ v1 → J_X3_mixBlock_47 E v0 (0 : Int32) u) ∧ (¬ (64 : Int32) ≤ v1 → (gx_isR 61 .int ∧ vp_in v1 (gx_len 61) ∧ (gx_isO v0 3 ∧ (gx_isR (gx_r u v0 2) .int ∧ vp_in v1 (gx_len (gx_r u v0 2)) ∧ (S_X3_mixRound u v0 ((gx_a u 61 v1.toNatClampNeg) + (gx_a u (gx_r u v0 2) v1.toNatClampNeg)) (fun (u6 : gx_S) => (∀ x7 : Int32, x7 = v1 + 1 → J_X3_mixBlock_17 E v0 x7 u6))))))))) : gx_Wc E 2 17 [(0, .ref (ex_ad E v0)), (1, .int v1)] [] u := by
  refine gx_iload_n X (j := 1) dX3_mixBlock_17 rfl rfl ?_
  refine gx_bipush X (v := 64) dX3_mixBlock_18 (by decide) ?_
  refine gx_icmp_ge X (tgt := 45) dX3_mixBlock_20 (by decide) (fun c8 => ?_) (fun c8 => ?_)
  · replace h := h.1 c8
    refine gx_iconst X (v := 0) dX3_mixBlock_45 (by decide) ?_
    refine gx_istore_n X (lv' := [(1, .int (0 : Int32)), (0, .ref (ex_ad E v0))]) dX3_mixBlock_46 rfl (by decide) rfl ?_
    exact gx_sub [1, 0] rfl h
  · replace h := h.2 c8
    refine gx_aload_n X (j := 0) dX3_mixBlock_23 rfl rfl ?_
    refine gx_gets X (a := 61) (by decide +kernel) mw_358 dX3_mixBlock_24 ?_
    refine gx_iload_n X (j := 1) dX3_mixBlock_27 rfl rfl ?_
    obtain ⟨k1, h⟩ := h
    obtain ⟨k2, h⟩ := h
    refine gx_iald X k1 k2 dX3_mixBlock_28 ?_
    refine gx_aload_n X (j := 0) dX3_mixBlock_29 rfl rfl ?_
    obtain ⟨k3, h⟩ := h
    refine gx_get X k3 rfl iwX3 2 (by decide) mw_77 (v := .ref (ex_ad E (gx_r u v0 2))) rfl dX3_mixBlock_30 ?_
    refine gx_iload_n X (j := 1) dX3_mixBlock_33 rfl rfl ?_
    obtain ⟨k4, h⟩ := h
    obtain ⟨k5, h⟩ := h
    refine gx_iald X k4 k5 dX3_mixBlock_34 ?_
    refine gx_iadd X dX3_mixBlock_35 ?_
    refine gx_kv (gx_rV X (c_X3_mixRound h) (Nat.le_trans (by decide) hd) (Nat.le_trans (by decide) (Nat.mul_le_mul_left 40 hd)) k3 rfl mw_360 mw_362 mp_4 mw_5 mw_363 hyX3_mixRound (As := [.int ((gx_a u 61 v1.toNatClampNeg) + (gx_a u (gx_r u v0 2) v1.toNatClampNeg))]) (rest := []) rfl rfl (Nat.le_of_ble_eq_true rfl) dX3_mixBlock_36) (fun u6 h => ?_)
    obtain ⟨x7, ex7⟩ : ∃ y : Int32, y = v1 + 1 := ⟨_, rfl⟩
    replace h := h x7 ex7
    refine gx_iinc X (v := x7) (lv' := [(1, .int x7), (0, .ref (ex_ad E v0))]) dX3_mixBlock_39 (j := 1) rfl (by rw [ex7]; rfl) (by decide) rfl ?_
    refine gx_goto X (tgt := 17) dX3_mixBlock_42 (by decide) ?_
    exact gx_sub [1, 0] rfl h
set_option maxHeartbeats 4000000 in
set_option maxRecDepth 100000 in
theorem w_X3_mixBlock_47 {E : gx_E} (X : gx_X E cX3_mixBlock 2 RX3 none) (hd : 2 ≤ ex_d E) {post : gx_S → Prop} (hQ : ex_Q E = va_Qv post (gx_B (ex_Z E)) (gx_A (ex_Z E))) {u : gx_S} {v0 : Nat} {v1 : Int32} (h : (((8 : Int32) ≤ v1 → post u) ∧ (¬ (8 : Int32) ≤ v1 → (gx_isO v0 3 ∧ (gx_isR (gx_r u v0 0) .int ∧ vp_in v1 (gx_len (gx_r u v0 0)) ∧ (gx_isR (gx_r u v0 1) .int ∧ vp_in v1 (gx_len (gx_r u v0 1)) ∧ (gx_isA (gx_r u v0 0) .int ∧ vp_in v1 (gx_len (gx_r u v0 0)) ∧ ∀ u8 : gx_S, u8 = gx_pa u (gx_r u v0 0) (upd (gx_a u (gx_r u v0 0)) v1.toNatClampNeg ((gx_a u (gx_r u v0 0) v1.toNatClampNeg) + (gx_a u (gx_r u v0 1) v1.toNatClampNeg))) → (∀ x9 : Int32, x9 = v1 + 1 → J_X3_mixBlock_47 E v0 x9 u8)))))))) : gx_Wc E 2 47 [(0, .ref (ex_ad E v0)), (1, .int v1)] [] u := by
  refine gx_iload_n X (j := 1) dX3_mixBlock_47 rfl rfl ?_
  refine gx_bipush X (v := 8) dX3_mixBlock_48 (by decide) ?_
  refine gx_icmp_ge X (tgt := 74) dX3_mixBlock_50 (by decide) (fun c10 => ?_) (fun c10 => ?_)
  · replace h := h.1 c10
    exact gx_vret X hQ h dX3_mixBlock_74
  · replace h := h.2 c10
    refine gx_aload_n X (j := 0) dX3_mixBlock_53 rfl rfl ?_
    obtain ⟨k1, h⟩ := h
    refine gx_get X k1 rfl iwX3 0 (by decide) mw_75 (v := .ref (ex_ad E (gx_r u v0 0))) rfl dX3_mixBlock_54 ?_
    refine gx_iload_n X (j := 1) dX3_mixBlock_57 rfl rfl ?_
    refine gx_dup2_11 X dX3_mixBlock_58 rfl rfl ?_
    obtain ⟨k2, h⟩ := h
    obtain ⟨k3, h⟩ := h
    refine gx_iald X k2 k3 dX3_mixBlock_59 ?_
    refine gx_aload_n X (j := 0) dX3_mixBlock_60 rfl rfl ?_
    refine gx_get X k1 rfl iwX3 1 (by decide) mw_76 (v := .ref (ex_ad E (gx_r u v0 1))) rfl dX3_mixBlock_61 ?_
    refine gx_iload_n X (j := 1) dX3_mixBlock_64 rfl rfl ?_
    obtain ⟨k4, h⟩ := h
    obtain ⟨k5, h⟩ := h
    refine gx_iald X k4 k5 dX3_mixBlock_65 ?_
    refine gx_iadd X dX3_mixBlock_66 ?_
    obtain ⟨k6, h⟩ := h
    obtain ⟨k7, h⟩ := h
    refine gx_iast X k6 k7 dX3_mixBlock_67 ?_
    refine gx_nams (fun u8 eu8 => ?_)
    replace h := h u8 eu8
    obtain ⟨x9, ex9⟩ : ∃ y : Int32, y = v1 + 1 := ⟨_, rfl⟩
    replace h := h x9 ex9
    refine gx_iinc X (v := x9) (lv' := [(1, .int x9), (0, .ref (ex_ad E v0))]) dX3_mixBlock_68 (j := 1) rfl (by rw [ex9]; rfl) (by decide) rfl ?_
    refine gx_goto X (tgt := 47) dX3_mixBlock_71 (by decide) ?_
    exact gx_sub [1, 0] rfl h
def ush (x : Int32) (k : Int32) : Int32 := (x.toUInt32 >>> (k.toUInt32 &&& Int32.toUInt32 31)).toInt32
def cexp (h : Nat → Int32) (i : Nat) : Int32 := ((((tr (h (i - 2)) 17 ^^^ tr (h (i - 2)) 19) ^^^ ush (h (i - 2)) 10) + h (i - 7)) + ((tr (h (i - 15)) 7 ^^^ tr (h (i - 15)) 18) ^^^ ush (h (i - 15)) 3)) + h (i - 16)
def schF (g : Nat → Int32) : Nat → (Nat → Int32)
  | 0 => g
  | k + 1 => upd (schF g k) (16 + k) (cexp (schF g k) (16 + k))
theorem cexp_cg {g h : Nat → Int32} {i : Nat} (hi : 16 ≤ i) (e : ∀ j, j < i → g j = h j) : cexp g i = cexp h i := by
  unfold cexp
  rw [e (i - 2) (by omega), e (i - 7) (by omega), e (i - 15) (by omega), e (i - 16) (by omega)]
/-- the sixteen words of a block -/
def w16 (T : List Nat) (p : Nat) (last : Bool) (i : Nat) : Int32 := if (last && decide (i = 15)) = true then nI (T.length * 8) else pwd T (p + 4 * i)
def S_X3_fillSchedule (u : gx_S) (v0 v1 : Nat) (v2 v3 : Int32) (post : gx_S → Prop) : Prop := v0 = 7 ∧ cfix u ∧ ∃ (T : List Nat) (p : Nat) (last : Bool), byL u v1 T ∧ gx_r u v1 0 ≠ 16 ∧ p < 2 ^ 20 ∧ v2 = nI p ∧ v3 = b2 last ∧ ∀ u', exA [16] u u' → (∀ j, j < 64 → gx_a u' 16 j = schF (w16 T p last) 48 j) → post u'
theorem isA16 : gx_isA 16 .int := ⟨by decide, rfl⟩
theorem in16 {i : Nat} (h : i < 64) : vp_in (nI i) (gx_len 16) := vp_in_nI (N := 64) h (by omega)
theorem nsub {a b : Nat} (h : b ≤ a) {B : Int32} (hB : B = nI b) : nI a - B = nI (a - b) := by rw [hB]; exact pk_sub h
theorem lp2_X3_fillSchedule {E : gx_E} (X : gx_X E cX3_fillSchedule 9 RX3 none) (hd : 3 ≤ ex_d E) {post : gx_S → Prop} (hQ : ex_Q E = va_Qv post (gx_B (ex_Z E)) (gx_A (ex_Z E))) {v1 : Nat} {v2 v3 : Int32} {g : Nat → Int32} {u0 : gx_S} (hp : ∀ u', exA [16] u0 u' → (∀ j, j < 64 → gx_a u' 16 j = schF g 48 j) → post u') :
    ∀ (n k : Nat) (u : gx_S), 48 - k = n → k ≤ 48 → cfix u → exA [16] u0 u → (∀ j, j < 16 + k → gx_a u 16 j = schF g k j) → J_X3_fillSchedule_55 E 7 v1 v2 v3 (nI (16 + k)) u := by
  intro n
  induction n with
  | zero =>
    intro k u hn hk hf hx hg
    have ek : k = 48 := by omega
    subst ek
    exact w_X3_fillSchedule_55 X hd hQ ⟨fun _ => hp u hx (fun j hj => hg j (by omega)), fun q => absurd (nI_le (a := 64) (by omega) (by omega)) q⟩
  | succ n ih =>
    intro k u hn hk hf hx hg
    have e : gx_r u 7 2 = 16 := hf 7 2 (by decide)
    refine w_X3_fillSchedule_55 X hd hQ ⟨fun q => absurd q (nI_ge (b := 64) (by omega) (by omega)), fun _ => ?_⟩
    rw [e, nsub (a := 16 + k) (b := 2) (B := 2) (by omega) rfl, nsub (a := 16 + k) (b := 15) (B := 15) (by omega) rfl, nsub (a := 16 + k) (b := 7) (B := 7) (by omega) rfl, nsub (a := 16 + k) (b := 16) (B := 16) (by omega) rfl]
    refine ⟨isO_x 7 3 (by decide), isA16.r, in16 (by omega), ?_⟩
    rintro x4 rfl
    refine ⟨in16 (by omega), ?_⟩
    rintro x6 rfl
    refine i_X3_turned (i_X3_turned ?_)
    rintro x11 rfl
    refine i_X3_turned (i_X3_turned ?_)
    rintro x16 rfl
    refine ⟨by rw [e]; exact isA16.r, by rw [e]; exact in16 (by omega), by rw [e]; exact in16 (by omega), by rw [e]; exact isA16, by rw [e]; exact in16 (by omega), ?_⟩
    rw [e]
    rintro u22 rfl x23 rfl
    rw [nI_1, show 16 + k + 1 = 16 + (k + 1) by omega]
    have ec : cexp (gx_a u 16) (16 + k) = cexp (schF g k) (16 + k) := cexp_cg (by omega) hg
    refine ih (k + 1) _ (by omega) (by omega) (fun o k h => hf o k h) (exA_tr hx (exA_pa _ _ (by simp))) (fun j hj => ?_)
    rw [gx_a_pa, if_pos rfl, nI_clamp (by omega), nI_clamp (by omega), nI_clamp (by omega), nI_clamp (by omega), nI_clamp (by omega), schF]
    by_cases ej : j = 16 + k
    · rw [ej, pk_us, pk_us]; exact ec
    · rw [pk_un ej, pk_un ej]; exact hg j (by omega)
theorem lp1_X3_fillSchedule {E : gx_E} (X : gx_X E cX3_fillSchedule 9 RX3 none) (hd : 3 ≤ ex_d E) {post : gx_S → Prop} (hQ : ex_Q E = va_Qv post (gx_B (ex_Z E)) (gx_A (ex_Z E))) {v1 p : Nat} {T : List Nat} {last : Bool} {u0 : gx_S} (hpp : p < 2 ^ 20) (hp : ∀ u', exA [16] u0 u' → (∀ j, j < 64 → gx_a u' 16 j = schF (w16 T p last) 48 j) → post u') :
    ∀ (n k : Nat) (u : gx_S), 16 - k = n → k ≤ 16 → cfix u → exA [16] u0 u → byL u v1 T → gx_r u v1 0 ≠ 16 → (∀ j, j < k → gx_a u 16 j = pwd T (p + 4 * j)) → J_X3_fillSchedule_3 E 7 v1 (nI p) (b2 last) (nI k) u := by
  intro n
  induction n with
  | zero =>
    intro k u hn hk hf hx hT hr hg
    have ek : k = 16 := by omega
    subst ek
    have e : gx_r u 7 2 = 16 := hf 7 2 (by decide)
    have hT2 := hT.2.2.2.2.1
    refine w_X3_fillSchedule_3 X hd hQ ⟨fun _ => ⟨fun q => ?_, fun q => ?_⟩, fun q => absurd (nI_le (a := 16) (by omega) (by omega)) q⟩
    · rw [b2_0] at q
      refine lp2_X3_fillSchedule X hd hQ hp 48 0 u (by omega) (by omega) hf hx (fun j hj => ?_)
      rw [hg j (by omega)]
      unfold schF w16
      rw [q, if_neg (by simp)]
    · rw [e]
      refine ⟨isO_x 7 3 (by decide), hT.1, i_X0_size hT ⟨isA16, in16 (i := 15) (by omega), ?_⟩⟩
      rintro u7 rfl
      refine lp2_X3_fillSchedule X hd hQ hp 48 0 _ (by omega) (by omega) (fun o k h => hf o k h) (exA_tr hx (exA_pa _ _ (by simp))) (fun j hj => ?_)
      rw [gx_a_pa, if_pos rfl, show (15 : Int32).toNatClampNeg = 15 from rfl, show (8 : Int32) = nI 8 from rfl, pk_mul]
      unfold schF w16
      rw [b2_n0 q]
      by_cases ej : j = 15
      · rw [ej, pk_us, if_pos (by decide)]
      · rw [pk_un ej, if_neg (by simpa using ej)]
        exact hg j (by omega)
  | succ n ih =>
    intro k u hn hk hf hx hT hr hg
    have e : gx_r u 7 2 = 16 := hf 7 2 (by decide)
    refine w_X3_fillSchedule_3 X hd hQ ⟨fun q => absurd q (nI_ge (b := 16) (by omega) (by omega)), fun _ => ?_⟩
    rw [e, show (4 : Int32) = nI 4 from rfl, pk_mul, nI_add]
    refine ⟨isO_x 7 3 (by decide), T, p + 4 * k, hT, by omega, rfl, isA16, in16 (by omega), ?_⟩
    rintro u14 rfl x15 rfl
    rw [nI_1]
    refine ih (k + 1) _ (by omega) (by omega) (fun o k h => hf o k h) (exA_tr hx (exA_pa _ _ (by simp))) (byL_pa hT hr) hr (fun j hj => ?_)
    rw [gx_a_pa, if_pos rfl, nI_clamp (by omega)]
    by_cases ej : j = k
    · rw [ej, pk_us]
    · rw [pk_un ej]; exact hg j (by omega)
theorem w_X3_fillSchedule {E : gx_E} (X : gx_X E cX3_fillSchedule 9 RX3 none) (hd : 3 ≤ ex_d E) {post : gx_S → Prop} (hQ : ex_Q E = va_Qv post (gx_B (ex_Z E)) (gx_A (ex_Z E))) {u : gx_S} {v0 v1 : Nat} {v2 v3 : Int32} (h : S_X3_fillSchedule u v0 v1 v2 v3 post) : gx_Wc E 9 0 [(0, .ref (ex_ad E v0)), (1, .ref (ex_ad E v1)), (2, .int v2), (3, .int v3)] [] u := by
  obtain ⟨rfl, hf, T, p, last, hT, hr, hpp, rfl, rfl, hp⟩ := h
  exact w_X3_fillSchedule_0 X hd hQ (lp1_X3_fillSchedule X hd hQ hpp hp 16 0 u (by omega) (by omega) hf (exA_rf _ _) hT hr (fun j hj => by omega))
theorem c_X3_fillSchedule {l : Launch} {Z : gx_Z} {u : gx_S} {v0 : Nat} {v1 : Nat} {v2 : Int32} {v3 : Int32} {post : gx_S → Prop} (h : S_X3_fillSchedule u v0 v1 v2 v3 post) : Met l yX3_fillSchedule (Cond.code yX3_fillSchedule cX3_fillSchedule 9 none :: gx_TB) (gx_rm 3) (gx_Pre Z u [.ref (Z.2.1 v0), .ref (Z.2.1 v1), .int v2, .int v3]) (va_Qv post (gx_B Z) (gx_A Z)) 0 0 (gx_A Z) := by
  refine gx_met (by decide +kernel) (Nat.le_of_ble_eq_true rfl) ?_
  intro E X hZ hQ hD hL
  subst hZ
  exact w_X3_fillSchedule X (Nat.le_of_eq hD.symm) hQ h
-- a block
def mx (s K W : Nat → Int32) : Nat → (Nat → Int32)
  | 0 => s
  | n + 1 => rnd (mx s K W n) (K n + W n)
def blk (s K W : Nat → Int32) (j : Nat) : Int32 := s j + mx s K W 64 j
theorem mx_cg {s t K K2 W W2 : Nat → Int32} (h : ∀ j, j < 8 → s j = t j) (hK : ∀ j, j < 64 → K j = K2 j) (hW : ∀ j, j < 64 → W j = W2 j) : ∀ n, n ≤ 64 → ∀ j, j < 8 → mx s K W n j = mx t K2 W2 n j
  | 0, _, j, hj => h j hj
  | n + 1, hn, j, hj => by
    unfold mx
    rw [hK n (by omega), hW n (by omega)]
    exact rnd_cg (mx_cg h hK hW n (by omega)) _ j hj
theorem blk_cg {s t K K2 W W2 : Nat → Int32} (h : ∀ j, j < 8 → s j = t j) (hK : ∀ j, j < 64 → K j = K2 j) (hW : ∀ j, j < 64 → W j = W2 j) (j : Nat) (hj : j < 8) : blk s K W j = blk t K2 W2 j := by
  unfold blk
  rw [h j hj, mx_cg h hK hW 64 (by omega) j hj]
def S_X3_mixBlock (u : gx_S) (v0 : Nat) (post : gx_S → Prop) : Prop := v0 = 7 ∧ cfix u ∧ ∀ u', exA [14, 15] u u' → (∀ j, j < 8 → gx_a u' 14 j = blk (gx_a u 14) (gx_a u 61) (gx_a u 16) j) → post u'
theorem isA14 : gx_isA 14 .int := ⟨by decide, rfl⟩
theorem in14 {i : Nat} (h : i < 8) : vp_in (nI i) (gx_len 14) := vp_in_nI (N := 8) h (by omega)
theorem isR61 : gx_isR 61 .int := ⟨by decide, rfl⟩
theorem isR60 : gx_isR 60 .int := ⟨by decide, rfl⟩
theorem lp2_X3_mixBlock {E : gx_E} (X : gx_X E cX3_mixBlock 2 RX3 none) (hd : 2 ≤ ex_d E) {post : gx_S → Prop} (hQ : ex_Q E = va_Qv post (gx_B (ex_Z E)) (gx_A (ex_Z E))) {s m : Nat → Int32} {u0 : gx_S} (hp : ∀ u', exA [14, 15] u0 u' → (∀ j, j < 8 → gx_a u' 14 j = s j + m j) → post u') :
    ∀ (n k : Nat) (u : gx_S), 8 - k = n → k ≤ 8 → cfix u → exA [14, 15] u0 u → (∀ j, j < 8 → gx_a u 15 j = m j) → (∀ j, j < k → gx_a u 14 j = s j + m j) → (∀ j, k ≤ j → j < 8 → gx_a u 14 j = s j) → J_X3_mixBlock_47 E 7 (nI k) u := by
  intro n
  induction n with
  | zero =>
    intro k u hn hk hf hx hm h1 h2
    exact w_X3_mixBlock_47 X hd hQ ⟨fun _ => hp u hx (fun j hj => h1 j (by omega)), fun q => absurd (nI_le (a := 8) (by omega) (by omega)) q⟩
  | succ n ih =>
    intro k u hn hk hf hx hm h1 h2
    refine w_X3_mixBlock_47 X hd hQ ⟨fun q => absurd q (nI_ge (b := 8) (by omega) (by omega)), fun _ => ?_⟩
    rw [show gx_r u 7 0 = 14 from hf 7 0 (by decide), show gx_r u 7 1 = 15 from hf 7 1 (by decide)]
    refine ⟨isO_x 7 3 (by decide), isA14.r, in14 (by omega), isA15.r, in15 (by omega), isA14, in14 (by omega), ?_⟩
    rintro u8 rfl x9 rfl
    rw [nI_1, nI_clamp (by omega)]
    refine ih (k + 1) _ (by omega) (by omega) (fun o k h => hf o k h) (exA_tr hx (exA_pa _ _ (by simp))) (fun j hj => ?_) (fun j hj => ?_) (fun j hj1 hj2 => ?_)
    · rw [gx_a_pa, if_neg (by decide)]; exact hm j hj
    · rw [gx_a_pa, if_pos rfl]
      by_cases ej : j = k
      · rw [ej, pk_us, h2 k (Nat.le_refl _) (by omega), hm k (by omega)]
      · rw [pk_un ej]; exact h1 j (by omega)
    · rw [gx_a_pa, if_pos rfl, pk_un (by omega)]; exact h2 j (by omega) hj2
theorem lp1_X3_mixBlock {E : gx_E} (X : gx_X E cX3_mixBlock 2 RX3 none) (hd : 2 ≤ ex_d E) {post : gx_S → Prop} (hQ : ex_Q E = va_Qv post (gx_B (ex_Z E)) (gx_A (ex_Z E))) {s K W : Nat → Int32} {u0 : gx_S} (hp : ∀ u', exA [14, 15] u0 u' → (∀ j, j < 8 → gx_a u' 14 j = blk s K W j) → post u') :
    ∀ (n k : Nat) (u : gx_S), 64 - k = n → k ≤ 64 → cfix u → exA [14, 15] u0 u → (∀ j, j < 64 → gx_a u 61 j = K j) → (∀ j, j < 64 → gx_a u 16 j = W j) → (∀ j, j < 8 → gx_a u 14 j = s j) → (∀ j, j < 8 → gx_a u 15 j = mx s K W k j) → J_X3_mixBlock_17 E 7 (nI k) u := by
  intro n
  induction n with
  | zero =>
    intro k u hn hk hf hx hK hW hs hm
    have ek : k = 64 := by omega
    subst ek
    exact w_X3_mixBlock_17 X hd hQ ⟨fun _ => lp2_X3_mixBlock X hd hQ (m := mx s K W 64) hp 8 0 u (by omega) (by omega) hf hx hm (fun j hj => by omega) (fun j _ hj => hs j hj), fun q => absurd (nI_le (a := 64) (by omega) (by omega)) q⟩
  | succ n ih =>
    intro k u hn hk hf hx hK hW hs hm
    refine w_X3_mixBlock_17 X hd hQ ⟨fun q => absurd q (nI_ge (b := 64) (by omega) (by omega)), fun _ => ?_⟩
    rw [show gx_r u 7 2 = 16 from hf 7 2 (by decide), nI_clamp (by omega), hK k (by omega), hW k (by omega)]
    refine ⟨isR61, vp_in_nI (N := 64) (by omega) (by omega), isO_x 7 3 (by decide), isA16.r, in16 (by omega), rfl, hf, ?_⟩
    intro u' hx' hr' x7 e7
    subst e7
    rw [nI_1]
    refine ih (k + 1) u' (by omega) (by omega) (exA_cfix hx' hf) (exA_tr hx (exA_wk hx' (by simp))) (fun j hj => ?_) (fun j hj => ?_) (fun j hj => ?_) (fun j hj => ?_)
    · rw [hx'.2.2.2 61 (by decide)]; exact hK j hj
    · rw [hx'.2.2.2 16 (by decide)]; exact hW j hj
    · rw [hx'.2.2.2 14 (by decide)]; exact hs j hj
    · rw [hr' j hj, mx]
      exact rnd_cg hm _ j hj
theorem w_X3_mixBlock {E : gx_E} (X : gx_X E cX3_mixBlock 2 RX3 none) (hd : 2 ≤ ex_d E) {post : gx_S → Prop} (hQ : ex_Q E = va_Qv post (gx_B (ex_Z E)) (gx_A (ex_Z E))) {u : gx_S} {v0 : Nat} (h : S_X3_mixBlock u v0 post) : gx_Wc E 2 0 [(0, .ref (ex_ad E v0))] [] u := by
  obtain ⟨rfl, hf, hp⟩ := h
  refine w_X3_mixBlock_0 X hd hQ ?_
  rw [show gx_r u 7 0 = 14 from hf 7 0 (by decide), show gx_r u 7 1 = 15 from hf 7 1 (by decide)]
  refine ⟨isO_x 7 3 (by decide), isA14.r, isA15, by decide, by decide, by decide, by decide, by decide, ?_⟩
  rintro u9 rfl
  refine lp1_X3_mixBlock X hd hQ (s := gx_a u 14) (K := gx_a u 61) (W := gx_a u 16) hp 64 0 _ (by omega) (by omega) (fun o k h => hf o k h) (exA_pa _ _ (by simp)) (fun j _ => ?_) (fun j _ => ?_) (fun j _ => ?_) (fun j hj => ?_)
  · rw [gx_a_pa, if_neg (by decide)]
  · rw [gx_a_pa, if_neg (by decide)]
  · rw [gx_a_pa, if_neg (by decide)]
  · rw [gx_a_pa, if_pos rfl]
    exact sb_cpy0 (n := 8) hj
theorem c_X3_mixBlock {l : Launch} {Z : gx_Z} {u : gx_S} {v0 : Nat} {post : gx_S → Prop} (h : S_X3_mixBlock u v0 post) : Met l yX3_mixBlock (Cond.code yX3_mixBlock cX3_mixBlock 2 none :: gx_TB) (gx_rm 2) (gx_Pre Z u [.ref (Z.2.1 v0)]) (va_Qv post (gx_B Z) (gx_A Z)) 0 0 (gx_A Z) := by
  refine gx_met (by decide +kernel) (Nat.le_of_ble_eq_true rfl) ?_
  intro E X hZ hQ hD hL
  subst hZ
  exact w_X3_mixBlock X (Nat.le_of_eq hD.symm) hQ h
-- PlainSeal$Sha256.write(LPlainSeal$Bytes;LPlainSeal$Bytes;)V
theorem dX3_write_0 : decode cX3_write 0 = .ok (.aload_n 1, 1) := by decide +kernel
theorem dX3_write_1 : decode cX3_write 1 = .ok (.invokevirtual 19, 3) := by decide +kernel
theorem dX3_write_4 : decode cX3_write 4 = .ok (.bipush 9, 2) := by decide +kernel
theorem dX3_write_6 : decode cX3_write 6 = .ok (.iadd, 1) := by decide +kernel
theorem dX3_write_7 : decode cX3_write 7 = .ok (.bipush 64, 2) := by decide +kernel
theorem dX3_write_9 : decode cX3_write 9 = .ok (.iadd, 1) := by decide +kernel
theorem dX3_write_10 : decode cX3_write 10 = .ok (.iconst 1, 1) := by decide +kernel
theorem dX3_write_11 : decode cX3_write 11 = .ok (.isub, 1) := by decide +kernel
theorem dX3_write_12 : decode cX3_write 12 = .ok (.bipush 64, 2) := by decide +kernel
theorem dX3_write_14 : decode cX3_write 14 = .ok (.idiv, 1) := by decide +kernel
theorem dX3_write_15 : decode cX3_write 15 = .ok (.istore_n 3, 1) := by decide +kernel
theorem dX3_write_16 : decode cX3_write 16 = .ok (.getstatic 25, 3) := by decide +kernel
theorem dX3_write_19 : decode cX3_write 19 = .ok (.iconst 0, 1) := by decide +kernel
theorem dX3_write_20 : decode cX3_write 20 = .ok (.aload_n 0, 1) := by decide +kernel
theorem dX3_write_21 : decode cX3_write 21 = .ok (.getfield 9, 3) := by decide +kernel
theorem dX3_write_24 : decode cX3_write 24 = .ok (.iconst 0, 1) := by decide +kernel
theorem dX3_write_25 : decode cX3_write 25 = .ok (.bipush 8, 2) := by decide +kernel
theorem dX3_write_27 : decode cX3_write 27 = .ok (.invokestatic 28, 3) := by decide +kernel
theorem dX3_write_30 : decode cX3_write 30 = .ok (.iconst 0, 1) := by decide +kernel
theorem dX3_write_31 : decode cX3_write 31 = .ok (.istore 4, 2) := by decide +kernel
theorem dX3_write_33 : decode cX3_write 33 = .ok (.iload 4, 2) := by decide +kernel
theorem dX3_write_35 : decode cX3_write 35 = .ok (.iload_n 3, 1) := by decide +kernel
theorem dX3_write_36 : decode cX3_write 36 = .ok (.if_icmp .ge 36, 3) := by decide +kernel
theorem dX3_write_39 : decode cX3_write 39 = .ok (.aload_n 0, 1) := by decide +kernel
theorem dX3_write_40 : decode cX3_write 40 = .ok (.aload_n 1, 1) := by decide +kernel
theorem dX3_write_41 : decode cX3_write 41 = .ok (.iload 4, 2) := by decide +kernel
theorem dX3_write_43 : decode cX3_write 43 = .ok (.bipush 64, 2) := by decide +kernel
theorem dX3_write_45 : decode cX3_write 45 = .ok (.imul, 1) := by decide +kernel
theorem dX3_write_46 : decode cX3_write 46 = .ok (.iload 4, 2) := by decide +kernel
theorem dX3_write_48 : decode cX3_write 48 = .ok (.iload_n 3, 1) := by decide +kernel
theorem dX3_write_49 : decode cX3_write 49 = .ok (.iconst 1, 1) := by decide +kernel
theorem dX3_write_50 : decode cX3_write 50 = .ok (.isub, 1) := by decide +kernel
theorem dX3_write_51 : decode cX3_write 51 = .ok (.if_icmp .ne 7, 3) := by decide +kernel
theorem dX3_write_54 : decode cX3_write 54 = .ok (.iconst 1, 1) := by decide +kernel
theorem dX3_write_55 : decode cX3_write 55 = .ok (.goto 4, 3) := by decide +kernel
theorem dX3_write_58 : decode cX3_write 58 = .ok (.iconst 0, 1) := by decide +kernel
theorem dX3_write_59 : decode cX3_write 59 = .ok (.invokevirtual 34, 3) := by decide +kernel
theorem dX3_write_62 : decode cX3_write 62 = .ok (.aload_n 0, 1) := by decide +kernel
theorem dX3_write_63 : decode cX3_write 63 = .ok (.invokevirtual 38, 3) := by decide +kernel
theorem dX3_write_66 : decode cX3_write 66 = .ok (.iinc 4 1, 3) := by decide +kernel
theorem dX3_write_69 : decode cX3_write 69 = .ok (.goto (-36), 3) := by decide +kernel
theorem dX3_write_72 : decode cX3_write 72 = .ok (.aload_n 2, 1) := by decide +kernel
theorem dX3_write_73 : decode cX3_write 73 = .ok (.invokevirtual 41, 3) := by decide +kernel
theorem dX3_write_76 : decode cX3_write 76 = .ok (.iconst 0, 1) := by decide +kernel
theorem dX3_write_77 : decode cX3_write 77 = .ok (.istore 4, 2) := by decide +kernel
theorem dX3_write_79 : decode cX3_write 79 = .ok (.iload 4, 2) := by decide +kernel
theorem dX3_write_81 : decode cX3_write 81 = .ok (.bipush 8, 2) := by decide +kernel
theorem dX3_write_83 : decode cX3_write 83 = .ok (.if_icmp .ge 20, 3) := by decide +kernel
theorem dX3_write_86 : decode cX3_write 86 = .ok (.aload_n 2, 1) := by decide +kernel
theorem dX3_write_87 : decode cX3_write 87 = .ok (.aload_n 0, 1) := by decide +kernel
theorem dX3_write_88 : decode cX3_write 88 = .ok (.getfield 9, 3) := by decide +kernel
theorem dX3_write_91 : decode cX3_write 91 = .ok (.iload 4, 2) := by decide +kernel
theorem dX3_write_93 : decode cX3_write 93 = .ok (.iaload, 1) := by decide +kernel
theorem dX3_write_94 : decode cX3_write 94 = .ok (.invokevirtual 44, 3) := by decide +kernel
theorem dX3_write_97 : decode cX3_write 97 = .ok (.iinc 4 1, 3) := by decide +kernel
theorem dX3_write_100 : decode cX3_write 100 = .ok (.goto (-21), 3) := by decide +kernel
theorem dX3_write_103 : decode cX3_write 103 = .ok (.return_, 1) := by decide +kernel
theorem hyX3_write : yX3_write.cls ≠ "java/lang/invoke/MethodHandle" ∧ yX3_write.cls ≠ "java/lang/invoke/VarHandle" ∧ (parseMethodDescriptor yX3_write.desc).map (fun d => d.parameters.length) = some 2 := by decide +kernel
abbrev J_X3_write_33 (E : gx_E) (v0 : Nat) (v1 : Nat) (v2 : Nat) (v3 : Int32) (v4 : Int32) (u : gx_S) : Prop := gx_Wc E 5 33 [(0, .ref (ex_ad E v0)), (1, .ref (ex_ad E v1)), (2, .ref (ex_ad E v2)), (3, .int v3), (4, .int v4)] [] u
abbrev J_X3_write_79 (E : gx_E) (v0 : Nat) (v1 : Nat) (v2 : Nat) (v3 : Int32) (v4 : Int32) (u : gx_S) : Prop := gx_Wc E 5 79 [(0, .ref (ex_ad E v0)), (1, .ref (ex_ad E v1)), (2, .ref (ex_ad E v2)), (3, .int v3), (4, .int v4)] [] u
set_option maxHeartbeats 4000000 in
set_option maxRecDepth 100000 in
theorem w_X3_write_0 {E : gx_E} (X : gx_X E cX3_write 5 RX3 none) (hd : 4 ≤ ex_d E) {post : gx_S → Prop} (hQ : ex_Q E = va_Qv post (gx_B (ex_Z E)) (gx_A (ex_Z E))) {u : gx_S} {v0 : Nat} {v1 : Nat} {v2 : Nat} (h : (gx_isO v1 0 ∧ S_X0_size u v1 (fun (r3 : Int32) (u2 : gx_S) => (∀ x4 : Int32, x4 = ((((r3 + (9 : Int32)) + (64 : Int32)) - (1 : Int32)) / (64 : Int32)) → (gx_isO v0 3 ∧ (gx_isR 60 .int ∧ gx_isA (gx_r u2 v0 0) .int ∧ ¬ (0 : Int32) < 0 ∧ ¬ (0 : Int32) < 0 ∧ ¬ (8 : Int32) < 0 ∧ (0 : Int32).toNatClampNeg + (8 : Int32).toNatClampNeg ≤ gx_len 60 ∧ (0 : Int32).toNatClampNeg + (8 : Int32).toNatClampNeg ≤ gx_len (gx_r u2 v0 0) ∧ ∀ u13 : gx_S, u13 = gx_pa u2 (gx_r u2 v0 0) (va_cpy (gx_a u2 60) (gx_a u2 (gx_r u2 v0 0)) (0 : Int32).toNatClampNeg (0 : Int32).toNatClampNeg (8 : Int32).toNatClampNeg) → J_X3_write_33 E v0 v1 v2 x4 (0 : Int32) u13)))))) : gx_Wc E 5 0 [(0, .ref (ex_ad E v0)), (1, .ref (ex_ad E v1)), (2, .ref (ex_ad E v2))] [] u := by
  refine gx_aload_n X (j := 1) dX3_write_0 rfl rfl ?_
  obtain ⟨k1, h⟩ := h
  refine gx_ki (gx_rV X (c_X0_size h) (Nat.le_trans (by decide) hd) (Nat.le_trans (by decide) (Nat.mul_le_mul_left 40 hd)) k1 rfl mw_334 mw_128 mw_129 mw_2 mw_130 hyX0_size (As := []) (rest := []) rfl rfl (Nat.le_of_ble_eq_true rfl) dX3_write_1) (fun r3 u2 h => ?_)
  refine gx_bipush X (v := 9) dX3_write_4 (by decide) ?_
  refine gx_iadd X dX3_write_6 ?_
  refine gx_bipush X (v := 64) dX3_write_7 (by decide) ?_
  refine gx_iadd X dX3_write_9 ?_
  refine gx_iconst X (v := 1) dX3_write_10 (by decide) ?_
  refine gx_isub X dX3_write_11 ?_
  refine gx_bipush X (v := 64) dX3_write_12 (by decide) ?_
  refine gx_idiv X dX3_write_14 (by decide) ?_
  refine gx_nami (fun x4 ex4 => ?_)
  replace h := h x4 ex4
  refine gx_istore_n X (lv' := [(3, .int x4), (0, .ref (ex_ad E v0)), (1, .ref (ex_ad E v1)), (2, .ref (ex_ad E v2))]) dX3_write_15 rfl (by decide) rfl ?_
  refine gx_gets X (a := 60) (by decide +kernel) mw_335 dX3_write_16 ?_
  refine gx_iconst X (v := 0) dX3_write_19 (by decide) ?_
  refine gx_aload_n X (j := 1) dX3_write_20 rfl rfl ?_
  obtain ⟨k5, h⟩ := h
  refine gx_get X k5 rfl iwX3 0 (by decide) mw_75 (v := .ref (ex_ad E (gx_r u2 v0 0))) rfl dX3_write_21 ?_
  refine gx_iconst X (v := 0) dX3_write_24 (by decide) ?_
  refine gx_bipush X (v := 8) dX3_write_25 (by decide) ?_
  obtain ⟨k6, h⟩ := h
  obtain ⟨k7, h⟩ := h
  obtain ⟨k8, k9, k10, k11, k12, h⟩ := h
  refine gx_copy X (Nat.le_trans (by decide) hd) k6 k7 rfl k8 k9 k10 k11 k12 mw_337 mw_339 mw_338 mw_12 (Nat.le_of_ble_eq_true rfl) dX3_write_27 ?_
  refine gx_nams (fun u13 eu13 => ?_)
  replace h := h u13 eu13
  refine gx_iconst X (v := 0) dX3_write_30 (by decide) ?_
  refine gx_istore X (lv' := [(4, .int (0 : Int32)), (3, .int x4), (0, .ref (ex_ad E v0)), (1, .ref (ex_ad E v1)), (2, .ref (ex_ad E v2))]) dX3_write_31 (by decide) rfl ?_
  exact gx_sub [2, 3, 4, 1, 0] rfl h
set_option maxHeartbeats 4000000 in
set_option maxRecDepth 100000 in
theorem w_X3_write_33 {E : gx_E} (X : gx_X E cX3_write 5 RX3 none) (hd : 4 ≤ ex_d E) {post : gx_S → Prop} (hQ : ex_Q E = va_Qv post (gx_B (ex_Z E)) (gx_A (ex_Z E))) {u : gx_S} {v0 : Nat} {v1 : Nat} {v2 : Nat} {v3 : Int32} {v4 : Int32} (h : ((v3 ≤ v4 → (gx_isO v2 0 ∧ S_X0_clear u v2 (fun (u2 : gx_S) => J_X3_write_79 E v0 v1 v2 v3 (0 : Int32) u2))) ∧ (¬ v3 ≤ v4 → ((¬ v4 = (v3 - (1 : Int32)) → (gx_isO v0 3 ∧ S_X3_fillSchedule u v0 v1 (v4 * (64 : Int32)) (0 : Int32) (fun (u4 : gx_S) => (S_X3_mixBlock u4 v0 (fun (u5 : gx_S) => (∀ x6 : Int32, x6 = v4 + 1 → J_X3_write_33 E v0 v1 v2 v3 x6 u5)))))) ∧ (v4 = (v3 - (1 : Int32)) → (gx_isO v0 3 ∧ S_X3_fillSchedule u v0 v1 (v4 * (64 : Int32)) (1 : Int32) (fun (u8 : gx_S) => (S_X3_mixBlock u8 v0 (fun (u9 : gx_S) => (∀ x10 : Int32, x10 = v4 + 1 → J_X3_write_33 E v0 v1 v2 v3 x10 u9)))))))))) : gx_Wc E 5 33 [(0, .ref (ex_ad E v0)), (1, .ref (ex_ad E v1)), (2, .ref (ex_ad E v2)), (3, .int v3), (4, .int v4)] [] u := by
  refine gx_iload X (j := 4) dX3_write_33 rfl ?_
  refine gx_iload_n X (j := 3) dX3_write_35 rfl rfl ?_
  refine gx_icmp_ge X (tgt := 72) dX3_write_36 (by decide) (fun c12 => ?_) (fun c12 => ?_)
  · replace h := h.1 c12
    refine gx_aload_n X (j := 2) dX3_write_72 rfl rfl ?_
    obtain ⟨k1, h⟩ := h
    refine gx_kv (gx_rV X (c_X0_clear h) (Nat.le_trans (by decide) hd) (Nat.le_trans (by decide) (Nat.mul_le_mul_left 40 hd)) k1 rfl mw_364 mw_192 mw_193 mw_2 mw_194 hyX0_clear (As := []) (rest := []) rfl rfl (Nat.le_of_ble_eq_true rfl) dX3_write_73) (fun u2 h => ?_)
    refine gx_iconst X (v := 0) dX3_write_76 (by decide) ?_
    refine gx_istore X (lv' := [(4, .int (0 : Int32)), (0, .ref (ex_ad E v0)), (1, .ref (ex_ad E v1)), (2, .ref (ex_ad E v2)), (3, .int v3)]) dX3_write_77 (by decide) rfl ?_
    exact gx_sub [1, 2, 3, 4, 0] rfl h
  · replace h := h.2 c12
    refine gx_aload_n X (j := 0) dX3_write_39 rfl rfl ?_
    refine gx_aload_n X (j := 1) dX3_write_40 rfl rfl ?_
    refine gx_iload X (j := 4) dX3_write_41 rfl ?_
    refine gx_bipush X (v := 64) dX3_write_43 (by decide) ?_
    refine gx_imul X dX3_write_45 ?_
    refine gx_iload X (j := 4) dX3_write_46 rfl ?_
    refine gx_iload_n X (j := 3) dX3_write_48 rfl rfl ?_
    refine gx_iconst X (v := 1) dX3_write_49 (by decide) ?_
    refine gx_isub X dX3_write_50 ?_
    refine gx_icmp_ne X (tgt := 58) dX3_write_51 (by decide) (fun c11 => ?_) (fun c11 => ?_)
    · replace h := h.1 c11
      refine gx_iconst X (v := 0) dX3_write_58 (by decide) ?_
      obtain ⟨k3, h⟩ := h
      refine gx_kv (gx_rV X (c_X3_fillSchedule h) (Nat.le_trans (by decide) hd) (Nat.le_trans (by decide) (Nat.mul_le_mul_left 40 hd)) k3 rfl mw_340 mw_342 mp_2 mw_5 mw_343 hyX3_fillSchedule (As := [.ref (ex_ad E v1), .int (v4 * (64 : Int32)), .int (0 : Int32)]) (rest := []) rfl rfl (Nat.le_of_ble_eq_true rfl) dX3_write_59) (fun u4 h => ?_)
      refine gx_aload_n X (j := 0) dX3_write_62 rfl rfl ?_
      refine gx_kv (gx_rV X (c_X3_mixBlock h) (Nat.le_trans (by decide) hd) (Nat.le_trans (by decide) (Nat.mul_le_mul_left 40 hd)) k3 rfl mw_354 mw_356 mp_3 mw_5 mw_357 hyX3_mixBlock (As := []) (rest := []) rfl rfl (Nat.le_of_ble_eq_true rfl) dX3_write_63) (fun u5 h => ?_)
      obtain ⟨x6, ex6⟩ : ∃ y : Int32, y = v4 + 1 := ⟨_, rfl⟩
      replace h := h x6 ex6
      refine gx_iinc X (v := x6) (lv' := [(4, .int x6), (0, .ref (ex_ad E v0)), (1, .ref (ex_ad E v1)), (2, .ref (ex_ad E v2)), (3, .int v3)]) dX3_write_66 (j := 4) rfl (by rw [ex6]; rfl) (by decide) rfl ?_
      refine gx_goto X (tgt := 33) dX3_write_69 (by decide) ?_
      exact gx_sub [1, 2, 3, 4, 0] rfl h
    · replace h := h.2 c11
      refine gx_iconst X (v := 1) dX3_write_54 (by decide) ?_
      refine gx_goto X (tgt := 59) dX3_write_55 (by decide) ?_
      obtain ⟨k7, h⟩ := h
      refine gx_kv (gx_rV X (c_X3_fillSchedule h) (Nat.le_trans (by decide) hd) (Nat.le_trans (by decide) (Nat.mul_le_mul_left 40 hd)) k7 rfl mw_340 mw_342 mp_2 mw_5 mw_343 hyX3_fillSchedule (As := [.ref (ex_ad E v1), .int (v4 * (64 : Int32)), .int (1 : Int32)]) (rest := []) rfl rfl (Nat.le_of_ble_eq_true rfl) dX3_write_59) (fun u8 h => ?_)
      refine gx_aload_n X (j := 0) dX3_write_62 rfl rfl ?_
      refine gx_kv (gx_rV X (c_X3_mixBlock h) (Nat.le_trans (by decide) hd) (Nat.le_trans (by decide) (Nat.mul_le_mul_left 40 hd)) k7 rfl mw_354 mw_356 mp_3 mw_5 mw_357 hyX3_mixBlock (As := []) (rest := []) rfl rfl (Nat.le_of_ble_eq_true rfl) dX3_write_63) (fun u9 h => ?_)
      obtain ⟨x10, ex10⟩ : ∃ y : Int32, y = v4 + 1 := ⟨_, rfl⟩
      replace h := h x10 ex10
      refine gx_iinc X (v := x10) (lv' := [(4, .int x10), (0, .ref (ex_ad E v0)), (1, .ref (ex_ad E v1)), (2, .ref (ex_ad E v2)), (3, .int v3)]) dX3_write_66 (j := 4) rfl (by rw [ex10]; rfl) (by decide) rfl ?_
      refine gx_goto X (tgt := 33) dX3_write_69 (by decide) ?_
      exact gx_sub [1, 2, 3, 4, 0] rfl h
set_option maxHeartbeats 4000000 in
set_option maxRecDepth 100000 in
theorem w_X3_write_79 {E : gx_E} (X : gx_X E cX3_write 5 RX3 none) (hd : 4 ≤ ex_d E) {post : gx_S → Prop} (hQ : ex_Q E = va_Qv post (gx_B (ex_Z E)) (gx_A (ex_Z E))) {u : gx_S} {v0 : Nat} {v1 : Nat} {v2 : Nat} {v3 : Int32} {v4 : Int32} (h : (((8 : Int32) ≤ v4 → post u) ∧ (¬ (8 : Int32) ≤ v4 → (gx_isO v0 3 ∧ (gx_isR (gx_r u v0 0) .int ∧ vp_in v4 (gx_len (gx_r u v0 0)) ∧ (gx_isO v2 0 ∧ S_X0_addWord u v2 (gx_a u (gx_r u v0 0) v4.toNatClampNeg) (fun (u5 : gx_S) => (∀ x6 : Int32, x6 = v4 + 1 → J_X3_write_79 E v0 v1 v2 v3 x6 u5)))))))) : gx_Wc E 5 79 [(0, .ref (ex_ad E v0)), (1, .ref (ex_ad E v1)), (2, .ref (ex_ad E v2)), (3, .int v3), (4, .int v4)] [] u := by
  refine gx_iload X (j := 4) dX3_write_79 rfl ?_
  refine gx_bipush X (v := 8) dX3_write_81 (by decide) ?_
  refine gx_icmp_ge X (tgt := 103) dX3_write_83 (by decide) (fun c7 => ?_) (fun c7 => ?_)
  · replace h := h.1 c7
    exact gx_vret X hQ h dX3_write_103
  · replace h := h.2 c7
    refine gx_aload_n X (j := 2) dX3_write_86 rfl rfl ?_
    refine gx_aload_n X (j := 0) dX3_write_87 rfl rfl ?_
    obtain ⟨k1, h⟩ := h
    refine gx_get X k1 rfl iwX3 0 (by decide) mw_75 (v := .ref (ex_ad E (gx_r u v0 0))) rfl dX3_write_88 ?_
    refine gx_iload X (j := 4) dX3_write_91 rfl ?_
    obtain ⟨k2, h⟩ := h
    obtain ⟨k3, h⟩ := h
    refine gx_iald X k2 k3 dX3_write_93 ?_
    obtain ⟨k4, h⟩ := h
    refine gx_kv (gx_rV X (c_X0_addWord h) (Nat.le_trans (by decide) hd) (Nat.le_trans (by decide) (Nat.mul_le_mul_left 40 hd)) k4 rfl mw_365 mw_132 mw_133 mw_2 mw_134 hyX0_addWord (As := [.int (gx_a u (gx_r u v0 0) v4.toNatClampNeg)]) (rest := []) rfl rfl (Nat.le_of_ble_eq_true rfl) dX3_write_94) (fun u5 h => ?_)
    obtain ⟨x6, ex6⟩ : ∃ y : Int32, y = v4 + 1 := ⟨_, rfl⟩
    replace h := h x6 ex6
    refine gx_iinc X (v := x6) (lv' := [(4, .int x6), (0, .ref (ex_ad E v0)), (1, .ref (ex_ad E v1)), (2, .ref (ex_ad E v2)), (3, .int v3)]) dX3_write_97 (j := 4) rfl (by rw [ex6]; rfl) (by decide) rfl ?_
    refine gx_goto X (tgt := 79) dX3_write_100 (by decide) ?_
    exact gx_sub [1, 2, 3, 4, 0] rfl h
/-- the state behind n blocks of a row of B -/
def shS (HC K : Nat → Int32) (T : List Nat) (B : Nat) : Nat → (Nat → Int32)
  | 0 => HC
  | n + 1 => blk (shS HC K T B n) K (schF (w16 T (n * 64) (decide (n + 1 = B))) 48)
def nblk (T : List Nat) : Nat := (T.length + 72) / 64
def dgB (h : Nat → Int32) : Nat → List Nat
  | 0 => []
  | n + 1 => dgB h n ++ wB (h n)
theorem dgB_len (h : Nat → Int32) : ∀ n, (dgB h n).length = 4 * n
  | 0 => rfl
  | n + 1 => by rw [dgB, List.length_append, dgB_len h n]; simp [wB]; omega
theorem dgB_cg {g h : Nat → Int32} : ∀ n, (∀ j, j < n → g j = h j) → dgB g n = dgB h n
  | 0, _ => rfl
  | n + 1, e => by rw [dgB, dgB, dgB_cg n (fun j hj => e j (by omega)), e n (by omega)]
/-- the digest of a row -/
def dig (HC K : Nat → Int32) (T : List Nat) : List Nat := dgB (shS HC K T (nblk T) (nblk T)) 8
def S_X3_write (u : gx_S) (v0 v1 v2 : Nat) (post : gx_S → Prop) : Prop := v0 = 7 ∧ v1 = 1 ∧ v2 = 2 ∧ cfix u ∧ ∃ T O : List Nat, byL u 1 T ∧ byL u 2 O ∧ ∀ u', exA [14, 15, 16] u u' → byU u' 2 (dig (gx_a u 60) (gx_a u 61) T) post
theorem lp2_X3_write {E : gx_E} (X : gx_X E cX3_write 5 RX3 none) (hd : 4 ≤ ex_d E) {post : gx_S → Prop} (hQ : ex_Q E = va_Qv post (gx_B (ex_Z E)) (gx_A (ex_Z E))) {v3 : Int32} {h : Nat → Int32} :
    ∀ (n k : Nat) (u : gx_S), 8 - k = n → k ≤ 8 → cfix u → (∀ j, j < 8 → gx_a u 14 j = h j) → byL u 2 (dgB h k) → byU u 2 (dgB h 8) post → J_X3_write_79 E 7 1 2 v3 (nI k) u := by
  intro n
  induction n with
  | zero =>
    intro k u hn hk hf hs hO hp
    have ek : k = 8 := by omega
    subst ek
    exact w_X3_write_79 X hd hQ ⟨fun _ => byU_self hO hp, fun q => absurd (nI_le (a := 8) (by omega) (by omega)) q⟩
  | succ n ih =>
    intro k u hn hk hf hs hO hp
    refine w_X3_write_79 X hd hQ ⟨fun q => absurd q (nI_ge (b := 8) (by omega) (by omega)), fun _ => ?_⟩
    rw [show gx_r u 7 0 = 14 from hf 7 0 (by decide), nI_clamp (by omega), hs k (by omega)]
    refine ⟨isO_x 7 3 (by decide), isA14.r, in14 (by omega), hO.1, i_X0_addWord hO (by rw [dgB_len]; omega) (fun f hf2 => ?_)⟩
    rintro x6 rfl
    rw [nI_1]
    have hl : (dgB h k ++ wB (h k)).length ≤ 2000 := by
      have := dgB_len h (k + 1)
      rw [dgB] at this
      omega
    refine ih (k + 1) _ (by omega) (by omega) (fun o k h => hf o k h) (fun j hj => ?_) (byL_W hO hf2 hl) (byU_W hp)
    rw [byW_a, if_neg (by rw [hf 2 0 (by decide)]; decide)]
    exact hs j hj
theorem lp1_X3_write {E : gx_E} (X : gx_X E cX3_write 5 RX3 none) (hd : 4 ≤ ex_d E) {post : gx_S → Prop} (hQ : ex_Q E = va_Qv post (gx_B (ex_Z E)) (gx_A (ex_Z E))) {T O : List Nat} {HC K : Nat → Int32} {u0 : gx_S} (hp : ∀ u', exA [14, 15, 16] u0 u' → byU u' 2 (dig HC K T) post) (hb : nblk T < 40) :
    ∀ (n k : Nat) (u : gx_S), nblk T - k = n → k ≤ nblk T → cfix u → exA [14, 15, 16] u0 u → byL u 1 T → byL u 2 O → (∀ j, j < 64 → gx_a u 61 j = K j) → (∀ j, j < 8 → gx_a u 14 j = shS HC K T (nblk T) k j) → J_X3_write_33 E 7 1 2 (nI (nblk T)) (nI k) u := by
  intro n
  induction n with
  | zero =>
    intro k u hn hk hf hx hT hO hK hs
    have ek : k = nblk T := by omega
    subst ek
    refine w_X3_write_33 X hd hQ ⟨fun _ => ⟨hO.1, i_X0_clear hO (fun f hf2 => ?_)⟩, fun q => absurd (nI_le (by omega) (by omega)) q⟩
    refine lp2_X3_write X hd hQ (h := shS HC K T (nblk T) (nblk T)) 8 0 _ (by omega) (by omega) (fun o k h => hf o k h) (fun j hj => ?_) (byL_W hO hf2 (by simp)) (byU_W (hp u hx))
    rw [byW_a, if_neg (by rw [hf 2 0 (by decide)]; decide)]
    exact hs j hj
  | succ n ih =>
    intro k u hn hk hf hx hT hO hK hs
    have step : ∀ last : Bool, last = decide (k + 1 = nblk T) → S_X3_fillSchedule u 7 1 (nI k * (64 : Int32)) (b2 last) (fun (u4 : gx_S) => (S_X3_mixBlock u4 7 (fun (u5 : gx_S) => (∀ x6 : Int32, x6 = nI k + 1 → J_X3_write_33 E 7 1 2 (nI (nblk T)) x6 u5)))) := by
      intro last hl
      rw [show (64 : Int32) = nI 64 from rfl, pk_mul]
      refine ⟨rfl, hf, T, k * 64, last, hT, by rw [hf 1 0 (by decide)]; decide, by omega, rfl, rfl, ?_⟩
      intro u4 hx4 hw4
      refine ⟨rfl, exA_cfix hx4 hf, ?_⟩
      intro u5 hx5 hs5 x6 e6
      subst e6
      rw [nI_1]
      have hx45 : exA [14, 15, 16] u u5 := exA_tr (exA_wk hx4 (by simp)) (exA_wk hx5 (by simp))
      refine ih (k + 1) u5 (by omega) (by omega) (exA_cfix hx45 hf) (exA_tr hx hx45) (exA_byL hx45 hT (by rw [hf 1 0 (by decide)]; decide)) (exA_byL hx45 hO (by rw [hf 2 0 (by decide)]; decide)) (fun j hj => ?_) (fun j hj => ?_)
      · rw [hx45.2.2.2 61 (by decide)]; exact hK j hj
      · rw [hs5 j hj, shS, ← hl]
        refine blk_cg (fun i hi => ?_) (fun i hi => ?_) hw4 j hj
        · rw [hx4.2.2.2 14 (by decide)]; exact hs i hi
        · rw [hx4.2.2.2 61 (by decide)]; exact hK i hi
    refine w_X3_write_33 X hd hQ ⟨fun q => absurd q (nI_ge (by omega) (by omega)), fun _ => ?_⟩
    rw [nsub (a := nblk T) (b := 1) (B := 1) (by omega) rfl, nI_eq (by omega) (by omega)]
    exact ⟨fun q => ⟨isO_x 7 3 (by decide), step false (decide_eq_false (by omega)).symm⟩, fun q => ⟨isO_x 7 3 (by decide), step true (decide_eq_true (by omega)).symm⟩⟩
theorem w_X3_write {E : gx_E} (X : gx_X E cX3_write 5 RX3 none) (hd : 4 ≤ ex_d E) {post : gx_S → Prop} (hQ : ex_Q E = va_Qv post (gx_B (ex_Z E)) (gx_A (ex_Z E))) {u : gx_S} {v0 v1 v2 : Nat} (h : S_X3_write u v0 v1 v2 post) : gx_Wc E 5 0 [(0, .ref (ex_ad E v0)), (1, .ref (ex_ad E v1)), (2, .ref (ex_ad E v2))] [] u := by
  obtain ⟨rfl, rfl, rfl, hf, T, O, hT, hO, hp⟩ := h
  have hT2 := hT.2.2.2.2.1
  have hb : nblk T < 40 := by unfold nblk; omega
  refine w_X3_write_0 X hd hQ ⟨hT.1, i_X0_size hT ?_⟩
  intro x4 e4
  rw [show (9 : Int32) = nI 9 from rfl, show (64 : Int32) = nI 64 from rfl, nI_add, nI_add, nsub (a := T.length + 9 + 64) (b := 1) (B := 1) (by omega) rfl, pk_div (by omega) (by omega) (by omega), show (T.length + 9 + 64 - 1) / 64 = nblk T by unfold nblk; omega] at e4
  subst e4
  rw [show gx_r u 7 0 = 14 from hf 7 0 (by decide)]
  refine ⟨isO_x 7 3 (by decide), isR60, isA14, by decide, by decide, by decide, by decide, by decide, ?_⟩
  rintro u13 rfl
  have hx : exA [14, 15, 16] u (gx_pa u 14 (va_cpy (gx_a u 60) (gx_a u 14) (0 : Int32).toNatClampNeg (0 : Int32).toNatClampNeg (8 : Int32).toNatClampNeg)) := exA_pa _ _ (by simp)
  refine lp1_X3_write X hd hQ (O := O) (HC := gx_a u 60) (K := gx_a u 61) hp hb (nblk T) 0 _ (by omega) (by omega) (exA_cfix hx hf) hx (exA_byL hx hT (by rw [hf 1 0 (by decide)]; decide)) (exA_byL hx hO (by rw [hf 2 0 (by decide)]; decide)) (fun j _ => ?_) (fun j hj => ?_)
  · rw [hx.2.2.2 61 (by decide)]
  · rw [gx_a_pa, if_pos rfl]
    exact sb_cpy0 (n := 8) hj
theorem c_X3_write {l : Launch} {Z : gx_Z} {u : gx_S} {v0 : Nat} {v1 : Nat} {v2 : Nat} {post : gx_S → Prop} (h : S_X3_write u v0 v1 v2 post) : Met l yX3_write (Cond.code yX3_write cX3_write 5 none :: gx_TB) (gx_rm 4) (gx_Pre Z u [.ref (Z.2.1 v0), .ref (Z.2.1 v1), .ref (Z.2.1 v2)]) (va_Qv post (gx_B Z) (gx_A Z)) 0 0 (gx_A Z) := by
  refine gx_met (by decide +kernel) (Nat.le_of_ble_eq_true rfl) ?_
  intro E X hZ hQ hD hL
  subst hZ
  exact w_X3_write X (Nat.le_of_eq hD.symm) hQ h

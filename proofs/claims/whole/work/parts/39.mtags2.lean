-- PlainSealModel.tags()I
theorem dX10_tags_0 : decode cX10_tags 0 = .ok (.aload_n 0, 1) := by decide +kernel
theorem dX10_tags_1 : decode cX10_tags 1 = .ok (.invokevirtual 112, 3) := by decide +kernel
theorem dX10_tags_4 : decode cX10_tags 4 = .ok (.istore_n 1, 1) := by decide +kernel
theorem dX10_tags_5 : decode cX10_tags 5 = .ok (.aload_n 0, 1) := by decide +kernel
theorem dX10_tags_6 : decode cX10_tags 6 = .ok (.getfield 58, 3) := by decide +kernel
theorem dX10_tags_9 : decode cX10_tags 9 = .ok (.getfield 181, 3) := by decide +kernel
theorem dX10_tags_12 : decode cX10_tags 12 = .ok (.iconst 0, 1) := by decide +kernel
theorem dX10_tags_13 : decode cX10_tags 13 = .ok (.putfield 150, 3) := by decide +kernel
theorem dX10_tags_16 : decode cX10_tags 16 = .ok (.iconst 0, 1) := by decide +kernel
theorem dX10_tags_17 : decode cX10_tags 17 = .ok (.istore_n 2, 1) := by decide +kernel
theorem dX10_tags_18 : decode cX10_tags 18 = .ok (.iload_n 2, 1) := by decide +kernel
theorem dX10_tags_19 : decode cX10_tags 19 = .ok (.iload_n 1, 1) := by decide +kernel
theorem dX10_tags_20 : decode cX10_tags 20 = .ok (.if_icmp .ge 48, 3) := by decide +kernel
theorem dX10_tags_23 : decode cX10_tags 23 = .ok (.aload_n 0, 1) := by decide +kernel
theorem dX10_tags_24 : decode cX10_tags 24 = .ok (.getfield 13, 3) := by decide +kernel
theorem dX10_tags_27 : decode cX10_tags 27 = .ok (.iload_n 2, 1) := by decide +kernel
theorem dX10_tags_28 : decode cX10_tags 28 = .ok (.baload, 1) := by decide +kernel
theorem dX10_tags_29 : decode cX10_tags 29 = .ok (.invokestatic 120, 3) := by decide +kernel
theorem dX10_tags_32 : decode cX10_tags 32 = .ok (.ifCond .ne 30, 3) := by decide +kernel
theorem dX10_tags_35 : decode cX10_tags 35 = .ok (.aload_n 0, 1) := by decide +kernel
theorem dX10_tags_36 : decode cX10_tags 36 = .ok (.getfield 13, 3) := by decide +kernel
theorem dX10_tags_39 : decode cX10_tags 39 = .ok (.iload_n 2, 1) := by decide +kernel
theorem dX10_tags_40 : decode cX10_tags 40 = .ok (.baload, 1) := by decide +kernel
theorem dX10_tags_41 : decode cX10_tags 41 = .ok (.bipush 10, 2) := by decide +kernel
theorem dX10_tags_43 : decode cX10_tags 43 = .ok (.if_icmp .eq 19, 3) := by decide +kernel
theorem dX10_tags_46 : decode cX10_tags 46 = .ok (.aload_n 0, 1) := by decide +kernel
theorem dX10_tags_47 : decode cX10_tags 47 = .ok (.getfield 58, 3) := by decide +kernel
theorem dX10_tags_50 : decode cX10_tags 50 = .ok (.getfield 181, 3) := by decide +kernel
theorem dX10_tags_53 : decode cX10_tags 53 = .ok (.aload_n 0, 1) := by decide +kernel
theorem dX10_tags_54 : decode cX10_tags 54 = .ok (.getfield 13, 3) := by decide +kernel
theorem dX10_tags_57 : decode cX10_tags 57 = .ok (.iload_n 2, 1) := by decide +kernel
theorem dX10_tags_58 : decode cX10_tags 58 = .ok (.baload, 1) := by decide +kernel
theorem dX10_tags_59 : decode cX10_tags 59 = .ok (.invokevirtual 153, 3) := by decide +kernel
theorem dX10_tags_62 : decode cX10_tags 62 = .ok (.iinc 2 1, 3) := by decide +kernel
theorem dX10_tags_65 : decode cX10_tags 65 = .ok (.goto (-47), 3) := by decide +kernel
theorem dX10_tags_68 : decode cX10_tags 68 = .ok (.aload_n 0, 1) := by decide +kernel
theorem dX10_tags_69 : decode cX10_tags 69 = .ok (.getfield 58, 3) := by decide +kernel
theorem dX10_tags_72 : decode cX10_tags 72 = .ok (.bipush 8, 2) := by decide +kernel
theorem dX10_tags_74 : decode cX10_tags 74 = .ok (.invokevirtual 184, 3) := by decide +kernel
theorem dX10_tags_77 : decode cX10_tags 77 = .ok (.ifCond .eq 13, 3) := by decide +kernel
theorem dX10_tags_80 : decode cX10_tags 80 = .ok (.aload_n 0, 1) := by decide +kernel
theorem dX10_tags_81 : decode cX10_tags 81 = .ok (.getfield 58, 3) := by decide +kernel
theorem dX10_tags_84 : decode cX10_tags 84 = .ok (.getfield 187, 3) := by decide +kernel
theorem dX10_tags_87 : decode cX10_tags 87 = .ok (.ifCond .ne 5, 3) := by decide +kernel
theorem dX10_tags_90 : decode cX10_tags 90 = .ok (.iconst (-1), 1) := by decide +kernel
theorem dX10_tags_91 : decode cX10_tags 91 = .ok (.ireturn, 1) := by decide +kernel
theorem dX10_tags_92 : decode cX10_tags 92 = .ok (.aload_n 0, 1) := by decide +kernel
theorem dX10_tags_93 : decode cX10_tags 93 = .ok (.getfield 54, 3) := by decide +kernel
theorem dX10_tags_96 : decode cX10_tags 96 = .ok (.astore_n 2, 1) := by decide +kernel
theorem dX10_tags_97 : decode cX10_tags 97 = .ok (.aload_n 0, 1) := by decide +kernel
theorem dX10_tags_98 : decode cX10_tags 98 = .ok (.aload_n 0, 1) := by decide +kernel
theorem dX10_tags_99 : decode cX10_tags 99 = .ok (.getfield 58, 3) := by decide +kernel
theorem dX10_tags_102 : decode cX10_tags 102 = .ok (.putfield 54, 3) := by decide +kernel
theorem dX10_tags_105 : decode cX10_tags 105 = .ok (.aload_n 0, 1) := by decide +kernel
theorem dX10_tags_106 : decode cX10_tags 106 = .ok (.aload_n 2, 1) := by decide +kernel
theorem dX10_tags_107 : decode cX10_tags 107 = .ok (.putfield 58, 3) := by decide +kernel
theorem dX10_tags_110 : decode cX10_tags 110 = .ok (.aload_n 0, 1) := by decide +kernel
theorem dX10_tags_111 : decode cX10_tags 111 = .ok (.getfield 54, 3) := by decide +kernel
theorem dX10_tags_114 : decode cX10_tags 114 = .ok (.getfield 187, 3) := by decide +kernel
theorem dX10_tags_117 : decode cX10_tags 117 = .ok (.ireturn, 1) := by decide +kernel
theorem hyX10_tags : yX10_tags.cls ≠ "java/lang/invoke/MethodHandle" ∧ yX10_tags.cls ≠ "java/lang/invoke/VarHandle" ∧ (parseMethodDescriptor yX10_tags.desc).map (fun d => d.parameters.length) = some 0 := by decide +kernel
abbrev J_X10_tags_18 (E : gx_E) (v0 : Nat) (v1 : Int32) (v2 : Int32) (u : gx_S) : Prop := gx_Wc E 3 18 [(0, .ref (ex_ad E v0)), (1, .int v1), (2, .int v2)] [] u
set_option maxHeartbeats 4000000 in
set_option maxRecDepth 100000 in
theorem w_X10_tags_0 {E : gx_E} (X : gx_X E cX10_tags 3 RX10 (some .int)) (hd : 2 ≤ ex_d E) {post : Int32 → gx_S → Prop} (hQ : ex_Q E = va_Qi post (gx_B (ex_Z E)) (gx_A (ex_Z E))) {u : gx_S} {v0 : Nat} (h : (gx_isO v0 9 ∧ S_X10_used u v0 (fun (r3 : Int32) (u2 : gx_S) => (gx_isO (gx_r u2 v0 17) 7 ∧ (gx_isO (gx_r u2 (gx_r u2 v0 17) 0) 8 ∧ ∀ u6 : gx_S, u6 = gx_pi u2 (gx_r u2 (gx_r u2 v0 17) 0) 1 (0 : Int32) → J_X10_tags_18 E v0 r3 (0 : Int32) u6))))) : gx_Wc E 3 0 [(0, .ref (ex_ad E v0))] [] u := by
  refine gx_aload_n X (j := 0) dX10_tags_0 rfl rfl ?_
  obtain ⟨k1, h⟩ := h
  refine gx_ki (gx_rV X (c_X10_used h) (Nat.le_trans (by decide) hd) (Nat.le_trans (by decide) (Nat.mul_le_mul_left 40 hd)) k1 rfl mw_625 mw_627 mp_12 mw_7 mw_628 hyX10_used (As := []) (rest := []) rfl rfl (Nat.le_of_ble_eq_true rfl) dX10_tags_1) (fun r3 u2 h => ?_)
  refine gx_istore_n X (lv' := [(1, .int r3), (0, .ref (ex_ad E v0))]) dX10_tags_4 rfl (by decide) rfl ?_
  refine gx_aload_n X (j := 1) dX10_tags_5 rfl rfl ?_
  refine gx_get X k1 rfl iwX10 17 (by decide) mw_538 (v := .ref (ex_ad E (gx_r u2 v0 17))) rfl dX10_tags_6 ?_
  obtain ⟨k4, h⟩ := h
  refine gx_get X k4 rfl iwX8 0 (by decide) mw_459 (v := .ref (ex_ad E (gx_r u2 (gx_r u2 v0 17) 0))) rfl dX10_tags_9 ?_
  refine gx_iconst X (v := 0) dX10_tags_12 (by decide) ?_
  obtain ⟨k5, h⟩ := h
  refine gx_put X k5 rfl iwX9 tyX9_ok nmX9 1 (by decide) mw_444 rfl rfl rfl (fun _ => rfl) dX10_tags_13 ?_
  refine gx_nams (fun u6 eu6 => ?_)
  replace h := h u6 eu6
  refine gx_iconst X (v := 0) dX10_tags_16 (by decide) ?_
  refine gx_istore_n X (lv' := [(2, .int (0 : Int32)), (1, .int r3), (0, .ref (ex_ad E v0))]) dX10_tags_17 rfl (by decide) rfl ?_
  exact gx_sub [2, 1, 0] rfl h
set_option maxHeartbeats 4000000 in
set_option maxRecDepth 100000 in
theorem w_X10_tags_18 {E : gx_E} (X : gx_X E cX10_tags 3 RX10 (some .int)) (hd : 2 ≤ ex_d E) {post : Int32 → gx_S → Prop} (hQ : ex_Q E = va_Qi post (gx_B (ex_Z E)) (gx_A (ex_Z E))) {u : gx_S} {v0 : Nat} {v1 : Int32} {v2 : Int32} (h : ((v1 ≤ v2 → (gx_isO v0 9 ∧ (gx_isO (gx_r u v0 17) 7 ∧ S_X8_read u (gx_r u v0 17) (8 : Int32) (fun (r4 : Int32) (u3 : gx_S) => ((r4 = 0 → post (-1 : Int32) u3) ∧ (¬ r4 = 0 → (gx_isO (gx_r u3 v0 17) 7 ∧ ((¬ (gx_i u3 (gx_r u3 v0 17) 4) = 0 → (∀ u6 : gx_S, u6 = gx_pr u3 v0 16 (gx_r u3 v0 17) → (∀ u7 : gx_S, u7 = gx_pr u6 v0 17 (gx_r u3 v0 16) → (gx_isO (gx_r u7 v0 16) 7 ∧ post (gx_i u7 (gx_r u7 v0 16) 4) u7)))) ∧ ((gx_i u3 (gx_r u3 v0 17) 4) = 0 → post (-1 : Int32) u3))))))))) ∧ (¬ v1 ≤ v2 → (gx_isO v0 9 ∧ (gx_isR (gx_r u v0 0) .byte ∧ vp_in v2 (gx_len (gx_r u v0 0)) ∧ (S_X10_isWhite u (gx_a u (gx_r u v0 0) v2.toNatClampNeg) (fun (r15 : Int32) (u14 : gx_S) => ((¬ r15 = 0 → (∀ x16 : Int32, x16 = v2 + 1 → J_X10_tags_18 E v0 v1 x16 u14)) ∧ (r15 = 0 → (gx_isR (gx_r u14 v0 0) .byte ∧ vp_in v2 (gx_len (gx_r u14 v0 0)) ∧ (((gx_a u14 (gx_r u14 v0 0) v2.toNatClampNeg) = (10 : Int32) → (∀ x19 : Int32, x19 = v2 + 1 → J_X10_tags_18 E v0 v1 x19 u14)) ∧ (¬ (gx_a u14 (gx_r u14 v0 0) v2.toNatClampNeg) = (10 : Int32) → (gx_isO (gx_r u14 v0 17) 7 ∧ (vp_in v2 (gx_len (gx_r u14 v0 0)) ∧ (gx_isO (gx_r u14 (gx_r u14 v0 17) 0) 8 ∧ S_X9_add u14 (gx_r u14 (gx_r u14 v0 17) 0) (gx_a u14 (gx_r u14 v0 0) v2.toNatClampNeg) (fun (u23 : gx_S) => (∀ x24 : Int32, x24 = v2 + 1 → J_X10_tags_18 E v0 v1 x24 u23))))))))))))))))) : gx_Wc E 3 18 [(0, .ref (ex_ad E v0)), (1, .int v1), (2, .int v2)] [] u := by
  refine gx_iload_n X (j := 2) dX10_tags_18 rfl rfl ?_
  refine gx_iload_n X (j := 1) dX10_tags_19 rfl rfl ?_
  refine gx_icmp_ge X (tgt := 68) dX10_tags_20 (by decide) (fun c27 => ?_) (fun c27 => ?_)
  · replace h := h.1 c27
    refine gx_aload_n X (j := 0) dX10_tags_68 rfl rfl ?_
    obtain ⟨k1, h⟩ := h
    refine gx_get X k1 rfl iwX10 17 (by decide) mw_538 (v := .ref (ex_ad E (gx_r u v0 17))) rfl dX10_tags_69 ?_
    refine gx_bipush X (v := 8) dX10_tags_72 (by decide) ?_
    obtain ⟨k2, h⟩ := h
    refine gx_ki (gx_rV X (c_X8_read h) (Nat.le_trans (by decide) hd) (Nat.le_trans (by decide) (Nat.mul_le_mul_left 40 hd)) k2 rfl mw_688 mw_689 mw_690 mw_9 mw_691 hyX8_read (As := [.int (8 : Int32)]) (rest := []) rfl rfl (Nat.le_of_ble_eq_true rfl) dX10_tags_74) (fun r4 u3 h => ?_)
    refine gx_if_eq X (tgt := 90) dX10_tags_77 (by decide) (fun c10 => ?_) (fun c10 => ?_)
    · replace h := h.1 c10
      refine gx_iconst X (v := -1) dX10_tags_90 (by decide) ?_
      exact gx_iret X hQ h dX10_tags_91
    · replace h := h.2 c10
      refine gx_aload_n X (j := 0) dX10_tags_80 rfl rfl ?_
      refine gx_get X k1 rfl iwX10 17 (by decide) mw_538 (v := .ref (ex_ad E (gx_r u3 v0 17))) rfl dX10_tags_81 ?_
      obtain ⟨k5, h⟩ := h
      refine gx_get X k5 rfl iwX8 4 (by decide) mw_466 (v := .int (gx_i u3 (gx_r u3 v0 17) 4)) rfl dX10_tags_84 ?_
      refine gx_if_ne X (tgt := 92) dX10_tags_87 (by decide) (fun c9 => ?_) (fun c9 => ?_)
      · replace h := h.1 c9
        refine gx_aload_n X (j := 0) dX10_tags_92 rfl rfl ?_
        refine gx_get X k1 rfl iwX10 16 (by decide) mw_537 (v := .ref (ex_ad E (gx_r u3 v0 16))) rfl dX10_tags_93 ?_
        refine gx_astore_n X (lv' := [(2, .ref (ex_ad E (gx_r u3 v0 16))), (0, .ref (ex_ad E v0)), (1, .int v1)]) dX10_tags_96 rfl (by decide) rfl ?_
        refine gx_aload_n X (j := 1) dX10_tags_97 rfl rfl ?_
        refine gx_aload_n X (j := 1) dX10_tags_98 rfl rfl ?_
        refine gx_get X k1 rfl iwX10 17 (by decide) mw_538 (v := .ref (ex_ad E (gx_r u3 v0 17))) rfl dX10_tags_99 ?_
        refine gx_putr X k1 rfl iwX10 tyX10_ok nmX10 16 (by decide) mw_537 rfl rfl rfl (fun _ => rfl) dX10_tags_102 ?_
        refine gx_nams (fun u6 eu6 => ?_)
        replace h := h u6 eu6
        refine gx_aload_n X (j := 1) dX10_tags_105 rfl rfl ?_
        refine gx_aload_n X (j := 0) dX10_tags_106 rfl rfl ?_
        refine gx_putr X k1 rfl iwX10 tyX10_ok nmX10 17 (by decide) mw_538 rfl rfl rfl (fun _ => rfl) dX10_tags_107 ?_
        refine gx_nams (fun u7 eu7 => ?_)
        replace h := h u7 eu7
        refine gx_aload_n X (j := 1) dX10_tags_110 rfl rfl ?_
        refine gx_get X k1 rfl iwX10 16 (by decide) mw_537 (v := .ref (ex_ad E (gx_r u7 v0 16))) rfl dX10_tags_111 ?_
        obtain ⟨k8, h⟩ := h
        refine gx_get X k8 rfl iwX8 4 (by decide) mw_466 (v := .int (gx_i u7 (gx_r u7 v0 16) 4)) rfl dX10_tags_114 ?_
        exact gx_iret X hQ h dX10_tags_117
      · replace h := h.2 c9
        refine gx_iconst X (v := -1) dX10_tags_90 (by decide) ?_
        exact gx_iret X hQ h dX10_tags_91
  · replace h := h.2 c27
    refine gx_aload_n X (j := 0) dX10_tags_23 rfl rfl ?_
    obtain ⟨k11, h⟩ := h
    refine gx_get X k11 rfl iwX10 0 (by decide) mw_521 (v := .ref (ex_ad E (gx_r u v0 0))) rfl dX10_tags_24 ?_
    refine gx_iload_n X (j := 2) dX10_tags_27 rfl rfl ?_
    obtain ⟨k12, h⟩ := h
    obtain ⟨k13, h⟩ := h
    refine gx_bald X k12 k13 dX10_tags_28 ?_
    refine gx_ki (gx_rS X (c_X10_isWhite h) (Nat.le_trans (by decide) hd) (Nat.le_trans (by decide) (Nat.mul_le_mul_left 40 hd)) mw_635 mw_636 mw_7 mw_637 hyX10_isWhite (As := [.int (gx_a u (gx_r u v0 0) v2.toNatClampNeg)]) (rest := []) rfl rfl (Nat.le_of_ble_eq_true rfl) dX10_tags_29) (fun r15 u14 h => ?_)
    refine gx_if_ne X (tgt := 62) dX10_tags_32 (by decide) (fun c26 => ?_) (fun c26 => ?_)
    · replace h := h.1 c26
      obtain ⟨x16, ex16⟩ : ∃ y : Int32, y = v2 + 1 := ⟨_, rfl⟩
      replace h := h x16 ex16
      refine gx_iinc X (v := x16) (lv' := [(2, .int x16), (0, .ref (ex_ad E v0)), (1, .int v1)]) dX10_tags_62 (j := 2) rfl (by rw [ex16]; rfl) (by decide) rfl ?_
      refine gx_goto X (tgt := 18) dX10_tags_65 (by decide) ?_
      exact gx_sub [1, 2, 0] rfl h
    · replace h := h.2 c26
      refine gx_aload_n X (j := 0) dX10_tags_35 rfl rfl ?_
      refine gx_get X k11 rfl iwX10 0 (by decide) mw_521 (v := .ref (ex_ad E (gx_r u14 v0 0))) rfl dX10_tags_36 ?_
      refine gx_iload_n X (j := 2) dX10_tags_39 rfl rfl ?_
      obtain ⟨k17, h⟩ := h
      obtain ⟨k18, h⟩ := h
      refine gx_bald X k17 k18 dX10_tags_40 ?_
      refine gx_bipush X (v := 10) dX10_tags_41 (by decide) ?_
      refine gx_icmp_eq X (tgt := 62) dX10_tags_43 (by decide) (fun c25 => ?_) (fun c25 => ?_)
      · replace h := h.1 c25
        obtain ⟨x19, ex19⟩ : ∃ y : Int32, y = v2 + 1 := ⟨_, rfl⟩
        replace h := h x19 ex19
        refine gx_iinc X (v := x19) (lv' := [(2, .int x19), (0, .ref (ex_ad E v0)), (1, .int v1)]) dX10_tags_62 (j := 2) rfl (by rw [ex19]; rfl) (by decide) rfl ?_
        refine gx_goto X (tgt := 18) dX10_tags_65 (by decide) ?_
        exact gx_sub [1, 2, 0] rfl h
      · replace h := h.2 c25
        refine gx_aload_n X (j := 0) dX10_tags_46 rfl rfl ?_
        refine gx_get X k11 rfl iwX10 17 (by decide) mw_538 (v := .ref (ex_ad E (gx_r u14 v0 17))) rfl dX10_tags_47 ?_
        obtain ⟨k20, h⟩ := h
        refine gx_get X k20 rfl iwX8 0 (by decide) mw_459 (v := .ref (ex_ad E (gx_r u14 (gx_r u14 v0 17) 0))) rfl dX10_tags_50 ?_
        refine gx_aload_n X (j := 0) dX10_tags_53 rfl rfl ?_
        refine gx_get X k11 rfl iwX10 0 (by decide) mw_521 (v := .ref (ex_ad E (gx_r u14 v0 0))) rfl dX10_tags_54 ?_
        refine gx_iload_n X (j := 2) dX10_tags_57 rfl rfl ?_
        obtain ⟨k21, h⟩ := h
        refine gx_bald X k17 k21 dX10_tags_58 ?_
        obtain ⟨k22, h⟩ := h
        refine gx_kv (gx_rV X (c_X9_add h) (Nat.le_trans (by decide) hd) (Nat.le_trans (by decide) (Nat.mul_le_mul_left 40 hd)) k22 rfl mw_657 mw_658 mw_659 mw_8 mw_660 hyX9_add (As := [.int (gx_a u14 (gx_r u14 v0 0) v2.toNatClampNeg)]) (rest := []) rfl rfl (Nat.le_of_ble_eq_true rfl) dX10_tags_59) (fun u23 h => ?_)
        obtain ⟨x24, ex24⟩ : ∃ y : Int32, y = v2 + 1 := ⟨_, rfl⟩
        replace h := h x24 ex24
        refine gx_iinc X (v := x24) (lv' := [(2, .int x24), (0, .ref (ex_ad E v0)), (1, .int v1)]) dX10_tags_62 (j := 2) rfl (by rw [ex24]; rfl) (by decide) rfl ?_
        refine gx_goto X (tgt := 18) dX10_tags_65 (by decide) ?_
        exact gx_sub [1, 2, 0] rfl h
theorem mg_ex2 {A : List Nat} {F : List (Nat × Nat)} {u v : gx_S} {t : Nat} {G : List Nat} (h : exG A F u v) (hA : tbx t ∉ A ∧ tbx t + 1 ∉ A ∧ tbx t + 2 ∉ A ∧ tbx t + 3 ∉ A) (hF : (t, 4) ∉ F) (m : mg u t G) : mg v t G := by
  unfold mg at m ⊢
  rw [h.1 t 4 hF, h.2.2 (tbx t) hA.1, h.2.2 (tbx t + 1) hA.2.1, h.2.2 (tbx t + 2) hA.2.2.1, h.2.2 (tbx t + 3) hA.2.2.2]
  exact m
theorem mS_d {u v : gx_S} {t k : Nat} {T O M G : List Nat} {HC KC : Nat → Int32} {A : List Nat} {F : List (Nat × Nat)} (h : mS u t T O M k G HC KC) (hx : exG A F u v) (hA : ∀ a ∈ A, 38 ≤ a ∧ a ≤ 45 ∧ a ≠ tbx t ∧ a ≠ tbx t + 1 ∧ a ≠ tbx t + 2 ∧ a ≠ tbx t + 3) (hF : ∀ q ∈ F, 23 ≤ q.1 ∧ q.1 ≤ 26 ∧ q.1 ≠ t) : mS v t T O M k G HC KC ∧ exM u v := by
  obtain ⟨h0, h1, h2, h3, h4, h5, h6⟩ := h
  have na : ∀ b, (b < 38 ∨ 45 < b) → b ∉ A := fun b hb e => by have := hA b e; omega
  have nf : ∀ k, (21, k) ∉ F := fun k e => by
    have := (hF _ e).1
    simp at this
  exact ⟨⟨h0, exG_mfix hx h1, mt_ex hx (na _ (by omega)) (nf _) h2, mo_ex hx (na _ (by omega)) (nf _) h3, mm_ex hx ⟨na _ (by omega), na _ (by omega), na _ (by omega), na _ (by omega)⟩ ⟨nf _, nf _, nf _, nf _⟩ h4, mg_ex2 hx ⟨fun e => (hA _ e).2.2.1 rfl, fun e => (hA _ e).2.2.2.1 rfl, fun e => (hA _ e).2.2.2.2.1 rfl, fun e => (hA _ e).2.2.2.2.2 rfl⟩ (fun e => (hF _ e).2.2 rfl) h5, mh_ex hx ⟨na _ (by omega), na _ (by omega)⟩ h6⟩, exM_of hx (fun a ha => by have := hA a ha; omega) (fun q hq => by have := hF q hq; omega)⟩
theorem dr {t : Nat} (ht : t = 23 ∨ t = 25) : (48 - t = 23 ∨ 48 - t = 25) ∧ tbx (48 - t) ≠ tbx t ∧ 48 - (48 - t) = t ∧ (∀ a ∈ [tbx (48 - t), tbx (48 - t) + 1, tbx (48 - t) + 2, tbx (48 - t) + 3], 38 ≤ a ∧ a ≤ 45 ∧ a ≠ tbx t ∧ a ≠ tbx t + 1 ∧ a ≠ tbx t + 2 ∧ a ≠ tbx t + 3) ∧ 48 - t ≠ t ∧ 48 - t + 1 ≠ t := by
  rcases ht with rfl | rfl <;> decide
theorem mfix_swap {u : gx_S} {t : Nat} (ht : t = 23 ∨ t = 25) (hf : mfix t u) : mfix (48 - t) (gx_pr (gx_pr u 21 16 (48 - t)) 21 17 t) := by
  intro o k h1 h2
  rw [gx_r_pr, gx_r_pr, hf o k h1 h2]
  by_cases e : o = 21
  · subst e
    by_cases e2 : k = 17
    · subst e2; rw [if_pos ⟨rfl, rfl⟩]; rcases ht with rfl | rfl <;> rfl
    · rw [if_neg (fun z => e2 z.2)]
      by_cases e3 : k = 16
      · subst e3; rw [if_pos ⟨rfl, rfl⟩]; rcases ht with rfl | rfl <;> rfl
      · rw [if_neg (fun z => e3 z.2)]
        by_cases e4 : k < 28
        · revert e2 e3
          revert k
          rcases ht with rfl | rfl <;> decide
        · have : ∀ t, ((rMl t).getD (21 - 21) []).getD k 0 = 0 := fun t => by
            show List.getD [28, 0, 0, 29, 30, 31, 32, 33, 34, 35, 36, 0, 0, 0, 0, 22, t, 48 - t, 46, 27, 52, 53, 54, 55, 56, 57, 58, 59] k 0 = 0
            rw [List.getD_eq_getElem?_getD, List.getElem?_eq_none (by simp; omega)]; rfl
          unfold rM
          rw [this, this]
  · rw [if_neg (fun z => e z.1), if_neg (fun z => e z.1)]
    have : o = 22 ∨ o = 23 ∨ o = 24 ∨ o = 25 ∨ o = 26 ∨ o = 27 := by omega
    rcases this with rfl | rfl | rfl | rfl | rfl | rfl <;> rfl
def S_X10_tags (u : gx_S) (v0 : Nat) (post : Int32 → gx_S → Prop) : Prop := v0 = 21 ∧ ∃ (t k : Nat) (T O M G : List Nat) (HC KC : Nat → Int32), mS u t T O M k G HC KC ∧ (ct (bareT T) ≠ 0 → ∀ v, exM u v → mS v (48 - t) [] O M k (bareT T) HC KC → post (nI (ct (bareT T))) v) ∧ (ct (bareT T) = 0 → ∀ v, exM u v → mS v t [] O M k G HC KC → post (-1) v)
theorem fil_step {T : List Nat} {i : Nat} (h : i < T.length) : (T.take (i + 1)).filter bare = (T.take i).filter bare ++ (if bare (ch T i) = true then [ch T i] else []) := by
  have e : T.take (i + 1) = T.take i ++ [ch T i] := by
    have := st_push (M := T) (p := 0) (i := i) (by omega) h
    simpa using this.symm
  rw [e, List.filter_append]
  congr 1
  cases hb : bare (ch T i) <;> simp [hb]
theorem lpt18 {E : gx_E} (X : gx_X E cX10_tags 3 RX10 (some .int)) (hd : 2 ≤ ex_d E) {post : Int32 → gx_S → Prop} (hQ : ex_Q E = va_Qi post (gx_B (ex_Z E)) (gx_A (ex_Z E))) {u0 : gx_S} {t k : Nat} {T O M G : List Nat} {HC KC : Nat → Int32} (hS : mS u0 t [] O M k G HC KC) (hT : rdb T (gx_a u0 28)) (hTl : T.length ≤ 2000)
    (h1 : ct (bareT T) ≠ 0 → ∀ v, exM u0 v → mS v (48 - t) [] O M k (bareT T) HC KC → post (nI (ct (bareT T))) v) (h2 : ct (bareT T) = 0 → ∀ v, exM u0 v → mS v t [] O M k G HC KC → post (-1) v) :
    ∀ (n i : Nat) (u : gx_S), T.length - i = n → i ≤ T.length → exG [tbx (48 - t)] [(48 - t + 1, 1)] u0 u → txt u (48 - t + 1) (tbx (48 - t)) ((T.take i).filter bare) → J_X10_tags_18 E 21 (nI T.length) (nI i) u := by
  obtain ⟨d0, d1, d2, d3, d4, d5⟩ := dr hS.1
  obtain ⟨k1, k2, k3, k4, k5, k6, k7, k8, k9, k10⟩ := tg_k d0
  intro n
  induction n with
  | zero =>
    intro i u hn hi hx hL
    rw [show i = T.length by omega, List.take_length] at hL
    have s := mS_d hS hx (fun a ha => d3 a (by simp at ha; simp [ha])) (fun q hq => by simp at hq; subst hq; simp; omega)
    have hf := s.1.2.1
    have h17 : gx_r u 21 17 = 48 - t := hf 21 17 (by decide) (by decide)
    refine w_X10_tags_18 X hd hQ ⟨fun _ => ⟨isO21, ?_⟩, fun q => absurd (nI_le (by omega) (by omega)) q⟩
    rw [h17]
    have hml : (T.filter bare).length ≤ 2000 := Nat.le_trans (List.length_filter_le _ _) hTl
    have sx : ∀ v, exT (48 - t) u v → mS v t [] O M k G HC KC ∧ exM u0 v := fun v xv => by
      have s2 := mS_d s.1 xv (fun a ha => d3 a (by simp at ha ⊢; omega)) (fun q hq => by simp at hq; subst hq; simp; omega)
      exact ⟨s2.1, exM_tr s.2 s2.2⟩
    refine ⟨k1, rfl, t, T.filter bare, bareT T, d0, hf, hL, hml, bG_bare T, fun w v xv mv iv => ?_, fun w v xv => ?_, fun w v xv iv => ?_⟩
    · obtain ⟨s2, s3⟩ := sx v xv
      have hfv := s2.2.1
      have h40 := ct_le (bareT T)
      refine ⟨fun q => absurd q (by decide), fun _ => ?_⟩
      rw [show gx_r v 21 17 = 48 - t from hfv 21 17 (by decide) (by decide), show gx_r v 21 16 = t from hfv 21 16 (by decide) (by decide), iv]
      refine ⟨k1, fun _ => fun u6 e6 u7 e7 => ?_, fun q => absurd ((nI_eq (b := 0) (by omega) (by omega)).mp q) w⟩
      have hsw := mfix_swap s2.1 hfv
      rw [← e6, ← e7] at hsw
      have ii : ∀ o k, gx_i u7 o k = gx_i v o k := fun o k => by subst e7 e6; rfl
      have aa : ∀ a, gx_a u7 a = gx_a v a := fun a => by subst e7 e6; rfl
      rw [show gx_r u7 21 16 = 48 - t from hsw 21 16 (by decide) (by decide), ii, iv]
      refine ⟨k1, h1 w u7 ?_ ?_⟩
      · refine exM_tr s3 ⟨fun o k _ => ii o k, fun o k ho => ?_, fun a _ => aa a⟩
        rw [e7, gx_r_pr, if_neg (by omega), e6, gx_r_pr, if_neg (by omega)]
      · obtain ⟨a0, a1, a2, a3, a4, a5, a6⟩ := s2
        refine ⟨d0, hsw, ?_, ?_, ?_, ?_, ?_⟩
        · unfold mt at a2 ⊢; rw [ii, aa]; exact a2
        · unfold mo at a3 ⊢; rw [ii, aa]; exact a3
        · unfold mm at a4 ⊢; simp only [ii, aa]; exact a4
        · unfold mg at mv ⊢; simp only [ii, aa]; exact mv
        · unfold mh at a6 ⊢; simp only [aa]; exact a6
    · obtain ⟨s2, s3⟩ := sx v xv
      exact ⟨fun _ => h2 w v s3 s2, fun q => absurd rfl q⟩
    · obtain ⟨s2, s3⟩ := sx v xv
      refine ⟨fun q => absurd q (by decide), fun _ => ?_⟩
      rw [show gx_r v 21 17 = 48 - t from s2.2.1 21 17 (by decide) (by decide), iv]
      exact ⟨k1, fun q => absurd rfl q, fun _ => h2 w v s3 s2⟩
  | succ n ih =>
    intro i u hn hi hx hL
    have s := mS_d hS hx (fun a ha => d3 a (by simp at ha; simp [ha])) (fun q hq => by simp at hq; subst hq; simp; omega)
    have hf := s.1.2.1
    have hc := ch_lt hT.1 (j := i) (by omega)
    have a28 : gx_a u 28 i = sb_b (ch T i) := by
      rw [hx.2.2 28 (by simp; have := (d3 (tbx (48 - t)) (by simp)).1; omega)]
      exact hT.2 i (by omega)
    obtain ⟨r1, r2, r3, r4, r5⟩ := tg_r d0 hf
    have r0 : gx_r u 21 0 = 28 := hf 21 0 (by decide) (by decide)
    have r17 : gx_r u 21 17 = 48 - t := hf 21 17 (by decide) (by decide)
    have fs := fil_step (T := T) (i := i) (by omega)
    have skip : bare (ch T i) = false → J_X10_tags_18 E 21 (nI T.length) (nI i + 1) u := fun w => by
      rw [nI_1]
      refine ih (i + 1) u (by omega) (by omega) hx ?_
      rw [fs, w]
      simpa using hL
    refine w_X10_tags_18 X hd hQ ⟨fun q => absurd q (nI_ge (by omega) (by omega)), fun _ => ⟨isO21, ?_⟩⟩
    rw [r0, nI_clamp (by omega), a28]
    refine ⟨isA28.r, in28 (by omega), i_X10_isWhite hc ⟨fun q => ?_, fun q => ?_⟩⟩
    · have q := b2_n0 q
      rintro x rfl
      exact skip (by unfold bare; rw [q]; rfl)
    · rw [b2_0] at q
      rw [r0, a28, show (10 : Int32) = nI 10 from rfl, sb_eq hc (by omega)]
      refine ⟨isA28.r, in28 (by omega), fun q2 => ?_, fun q2 => ?_⟩
      · rintro x rfl
        exact skip (by unfold bare; rw [q2]; rfl)
      · rw [r17, r1]
        have hl : ((T.take i).filter bare).length < 2000 := by
          have := List.length_filter_le bare (T.take i)
          rw [List.length_take] at this
          omega
        refine ⟨k1, in28 (by omega), k2, i_X9_add k2 r2 k3 (by rw [k7]; exact hl) (by rw [k7]; decide) hL hc (byte_sb hc) (fun v xv mv => ?_)⟩
        rintro x rfl
        rw [nI_1]
        refine ih (i + 1) v (by omega) (by omega) (exG_tr hx xv) ?_
        rw [fs, if_pos (by unfold bare; rw [q]; simpa using q2)]
        exact mv
theorem w_X10_tags {E : gx_E} (X : gx_X E cX10_tags 3 RX10 (some .int)) (hd : 2 ≤ ex_d E) {post : Int32 → gx_S → Prop} (hQ : ex_Q E = va_Qi post (gx_B (ex_Z E)) (gx_A (ex_Z E))) {u : gx_S} {v0 : Nat} (h : S_X10_tags u v0 post) : gx_Wc E 3 0 [(0, .ref (ex_ad E v0))] [] u := by
  obtain ⟨rfl, t, k, T, O, M, G, HC, KC, hS, h1, h2⟩ := h
  have hT := hS.2.2.1
  obtain ⟨d0, d1, d2, d3, d4, d5⟩ := dr hS.1
  obtain ⟨k1, k2, k3, k4, k5, k6, k7, k8, k9, k10⟩ := tg_k d0
  refine w_X10_tags_0 X hd hQ ⟨isO21, isO21, ?_⟩
  intro x2 e2 u3 e3
  have s := mS_t hS (v := u3) (T' := []) (by rw [e3]; exact exG_pi _ _ (by simp)) (by rw [e3]; exact mt_cut hT (n := 0) (by omega))
  have a28 : gx_a u3 28 = gx_a u 28 := by rw [e3]; rfl
  obtain ⟨r1, r2, r3, r4, r5⟩ := tg_r d0 s.1.2.1
  rw [e2, hT.1, show gx_r u3 21 17 = 48 - t from s.1.2.1 21 17 (by decide) (by decide), r1]
  refine ⟨k1, k2, fun u6 e6 => ?_⟩
  have x6 : exG [tbx (48 - t)] [(48 - t + 1, 1)] u3 u6 := by rw [e6]; exact exG_pi _ _ (by simp)
  exact lpt18 X hd hQ (u0 := u3) s.1 (by rw [a28]; exact hT.2.2) hT.2.1 (fun w v xv mv => h1 w v (exM_tr s.2 xv) mv) (fun w v xv mv => h2 w v (exM_tr s.2 xv) mv) _ 0 u6 rfl (by omega) x6 (by rw [e6]; exact ⟨by rw [gx_i_pi, if_pos ⟨rfl, rfl⟩]; rfl, rdb_nil _⟩)
theorem c_X10_tags {l : Launch} {Z : gx_Z} {u : gx_S} {v0 : Nat} {post : Int32 → gx_S → Prop} (h : S_X10_tags u v0 post) : Met l yX10_tags (Cond.code yX10_tags cX10_tags 3 (some .int) :: gx_TB) (gx_rm 2) (gx_Pre Z u [.ref (Z.2.1 v0)]) (va_Qi post (gx_B Z) (gx_A Z)) 0 0 (gx_A Z) := by
  refine gx_met (by decide +kernel) (Nat.le_of_ble_eq_true rfl) ?_
  intro E X hZ hQ hD hL
  subst hZ
  exact w_X10_tags X (Nat.le_of_eq hD.symm) hQ h
-- PlainSealModel.tag()I
theorem dX10_tag_0 : decode cX10_tag 0 = .ok (.aload_n 0, 1) := by decide +kernel
theorem dX10_tag_1 : decode cX10_tag 1 = .ok (.getfield 54, 3) := by decide +kernel
theorem dX10_tag_4 : decode cX10_tag 4 = .ok (.aload_n 0, 1) := by decide +kernel
theorem dX10_tag_5 : decode cX10_tag 5 = .ok (.getfield 13, 3) := by decide +kernel
theorem dX10_tag_8 : decode cX10_tag 8 = .ok (.aload_n 0, 1) := by decide +kernel
theorem dX10_tag_9 : decode cX10_tag 9 = .ok (.invokevirtual 112, 3) := by decide +kernel
theorem dX10_tag_12 : decode cX10_tag 12 = .ok (.invokevirtual 190, 3) := by decide +kernel
theorem dX10_tag_15 : decode cX10_tag 15 = .ok (.istore_n 1, 1) := by decide +kernel
theorem dX10_tag_16 : decode cX10_tag 16 = .ok (.iload_n 1, 1) := by decide +kernel
theorem dX10_tag_17 : decode cX10_tag 17 = .ok (.ifCond .ge 6, 3) := by decide +kernel
theorem dX10_tag_20 : decode cX10_tag 20 = .ok (.bipush (-2), 2) := by decide +kernel
theorem dX10_tag_22 : decode cX10_tag 22 = .ok (.ireturn, 1) := by decide +kernel
theorem dX10_tag_23 : decode cX10_tag 23 = .ok (.aload_n 0, 1) := by decide +kernel
theorem dX10_tag_24 : decode cX10_tag 24 = .ok (.getfield 54, 3) := by decide +kernel
theorem dX10_tag_27 : decode cX10_tag 27 = .ok (.getfield 194, 3) := by decide +kernel
theorem dX10_tag_30 : decode cX10_tag 30 = .ok (.iload_n 1, 1) := by decide +kernel
theorem dX10_tag_31 : decode cX10_tag 31 = .ok (.iaload, 1) := by decide +kernel
theorem dX10_tag_32 : decode cX10_tag 32 = .ok (.iconst 1, 1) := by decide +kernel
theorem dX10_tag_33 : decode cX10_tag 33 = .ok (.iadd, 1) := by decide +kernel
theorem dX10_tag_34 : decode cX10_tag 34 = .ok (.istore_n 2, 1) := by decide +kernel
theorem dX10_tag_35 : decode cX10_tag 35 = .ok (.aload_n 0, 1) := by decide +kernel
theorem dX10_tag_36 : decode cX10_tag 36 = .ok (.aload_n 0, 1) := by decide +kernel
theorem dX10_tag_37 : decode cX10_tag 37 = .ok (.getfield 54, 3) := by decide +kernel
theorem dX10_tag_40 : decode cX10_tag 40 = .ok (.getfield 197, 3) := by decide +kernel
theorem dX10_tag_43 : decode cX10_tag 43 = .ok (.iload_n 1, 1) := by decide +kernel
theorem dX10_tag_44 : decode cX10_tag 44 = .ok (.iaload, 1) := by decide +kernel
theorem dX10_tag_45 : decode cX10_tag 45 = .ok (.iload_n 2, 1) := by decide +kernel
theorem dX10_tag_46 : decode cX10_tag 46 = .ok (.isub, 1) := by decide +kernel
theorem dX10_tag_47 : decode cX10_tag 47 = .ok (.putfield 166, 3) := by decide +kernel
theorem dX10_tag_50 : decode cX10_tag 50 = .ok (.aload_n 0, 1) := by decide +kernel
theorem dX10_tag_51 : decode cX10_tag 51 = .ok (.getfield 54, 3) := by decide +kernel
theorem dX10_tag_54 : decode cX10_tag 54 = .ok (.getfield 181, 3) := by decide +kernel
theorem dX10_tag_57 : decode cX10_tag 57 = .ok (.getfield 163, 3) := by decide +kernel
theorem dX10_tag_60 : decode cX10_tag 60 = .ok (.iload_n 2, 1) := by decide +kernel
theorem dX10_tag_61 : decode cX10_tag 61 = .ok (.aload_n 0, 1) := by decide +kernel
theorem dX10_tag_62 : decode cX10_tag 62 = .ok (.getfield 17, 3) := by decide +kernel
theorem dX10_tag_65 : decode cX10_tag 65 = .ok (.iconst 0, 1) := by decide +kernel
theorem dX10_tag_66 : decode cX10_tag 66 = .ok (.aload_n 0, 1) := by decide +kernel
theorem dX10_tag_67 : decode cX10_tag 67 = .ok (.getfield 166, 3) := by decide +kernel
theorem dX10_tag_70 : decode cX10_tag 70 = .ok (.invokestatic 134, 3) := by decide +kernel
theorem dX10_tag_73 : decode cX10_tag 73 = .ok (.aload_n 0, 1) := by decide +kernel
theorem dX10_tag_74 : decode cX10_tag 74 = .ok (.getfield 166, 3) := by decide +kernel
theorem dX10_tag_77 : decode cX10_tag 77 = .ok (.ireturn, 1) := by decide +kernel
theorem hyX10_tag : yX10_tag.cls ≠ "java/lang/invoke/MethodHandle" ∧ yX10_tag.cls ≠ "java/lang/invoke/VarHandle" ∧ (parseMethodDescriptor yX10_tag.desc).map (fun d => d.parameters.length) = some 0 := by decide +kernel
def S_X10_tag (u : gx_S) (v0 : Nat) (post : Int32 → gx_S → Prop) : Prop := (gx_isO v0 9 ∧ (S_X10_used u v0 (fun (r3 : Int32) (u2 : gx_S) => (gx_isO (gx_r u v0 16) 7 ∧ S_X8_find u2 (gx_r u v0 16) (gx_r u v0 0) r3 (fun (r6 : Int32) (u5 : gx_S) => ((0 ≤ r6 → (gx_isO (gx_r u5 v0 16) 7 ∧ (gx_isR (gx_r u5 (gx_r u5 v0 16) 2) .int ∧ vp_in r6 (gx_len (gx_r u5 (gx_r u5 v0 16) 2)) ∧ (∀ x10 : Int32, x10 = ((gx_a u5 (gx_r u5 (gx_r u5 v0 16) 2) r6.toNatClampNeg) + (1 : Int32)) → (gx_isR (gx_r u5 (gx_r u5 v0 16) 3) .int ∧ vp_in r6 (gx_len (gx_r u5 (gx_r u5 v0 16) 3)) ∧ (∀ u13 : gx_S, u13 = gx_pi u5 v0 2 ((gx_a u5 (gx_r u5 (gx_r u5 v0 16) 3) r6.toNatClampNeg) - x10) → (gx_isO (gx_r u13 v0 16) 7 ∧ (gx_isO (gx_r u13 (gx_r u13 v0 16) 0) 8 ∧ (gx_isR (gx_r u13 (gx_r u13 (gx_r u13 v0 16) 0) 0) .byte ∧ gx_isA (gx_r u13 v0 3) .byte ∧ ¬ x10 < 0 ∧ ¬ (0 : Int32) < 0 ∧ ¬ (gx_i u13 v0 2) < 0 ∧ x10.toNatClampNeg + (gx_i u13 v0 2).toNatClampNeg ≤ gx_len (gx_r u13 (gx_r u13 (gx_r u13 v0 16) 0) 0) ∧ (0 : Int32).toNatClampNeg + (gx_i u13 v0 2).toNatClampNeg ≤ gx_len (gx_r u13 v0 3) ∧ ∀ u23 : gx_S, u23 = gx_pa u13 (gx_r u13 v0 3) (va_cpy (gx_a u13 (gx_r u13 (gx_r u13 (gx_r u13 v0 16) 0) 0)) (gx_a u13 (gx_r u13 v0 3)) x10.toNatClampNeg (0 : Int32).toNatClampNeg (gx_i u13 v0 2).toNatClampNeg) → post (gx_i u23 v0 2) u23))))))))) ∧ (¬ 0 ≤ r6 → post (-2 : Int32) u5)))))))
set_option maxHeartbeats 4000000 in
set_option maxRecDepth 100000 in
theorem w_X10_tag {E : gx_E} (X : gx_X E cX10_tag 3 RX10 (some .int)) (hd : 1 ≤ ex_d E) {post : Int32 → gx_S → Prop} (hQ : ex_Q E = va_Qi post (gx_B (ex_Z E)) (gx_A (ex_Z E))) {u : gx_S} {v0 : Nat} (h : S_X10_tag u v0 post) : gx_Wc E 3 0 [(0, .ref (ex_ad E v0))] [] u := by
  unfold S_X10_tag at h
  refine gx_aload_n X (j := 0) dX10_tag_0 rfl rfl ?_
  obtain ⟨k1, h⟩ := h
  refine gx_get X k1 rfl iwX10 16 (by decide) mw_537 (v := .ref (ex_ad E (gx_r u v0 16))) rfl dX10_tag_1 ?_
  refine gx_aload_n X (j := 0) dX10_tag_4 rfl rfl ?_
  refine gx_get X k1 rfl iwX10 0 (by decide) mw_521 (v := .ref (ex_ad E (gx_r u v0 0))) rfl dX10_tag_5 ?_
  refine gx_aload_n X (j := 0) dX10_tag_8 rfl rfl ?_
  refine gx_ki (gx_rV X (c_X10_used h) (Nat.le_trans (by decide) hd) (Nat.le_trans (by decide) (Nat.mul_le_mul_left 40 hd)) k1 rfl mw_625 mw_627 mp_12 mw_7 mw_628 hyX10_used (As := []) (rest := [.ref (ex_ad E (gx_r u v0 0)), .ref (ex_ad E (gx_r u v0 16))]) rfl rfl (Nat.le_of_ble_eq_true rfl) dX10_tag_9) (fun r3 u2 h => ?_)
  obtain ⟨k4, h⟩ := h
  refine gx_ki (gx_rV X (c_X8_find h) (Nat.le_trans (by decide) hd) (Nat.le_trans (by decide) (Nat.mul_le_mul_left 40 hd)) k4 rfl mw_702 mw_703 mw_704 mw_9 mw_705 hyX8_find (As := [.ref (ex_ad E (gx_r u v0 0)), .int r3]) (rest := []) rfl rfl (Nat.le_of_ble_eq_true rfl) dX10_tag_12) (fun r6 u5 h => ?_)
  refine gx_istore_n X (lv' := [(1, .int r6), (0, .ref (ex_ad E v0))]) dX10_tag_15 rfl (by decide) rfl ?_
  refine gx_iload_n X (j := 0) dX10_tag_16 rfl rfl ?_
  refine gx_if_ge X (tgt := 23) dX10_tag_17 (by decide) (fun c24 => ?_) (fun c24 => ?_)
  · replace h := h.1 c24
    refine gx_aload_n X (j := 1) dX10_tag_23 rfl rfl ?_
    refine gx_get X k1 rfl iwX10 16 (by decide) mw_537 (v := .ref (ex_ad E (gx_r u5 v0 16))) rfl dX10_tag_24 ?_
    obtain ⟨k7, h⟩ := h
    refine gx_get X k7 rfl iwX8 2 (by decide) mw_462 (v := .ref (ex_ad E (gx_r u5 (gx_r u5 v0 16) 2))) rfl dX10_tag_27 ?_
    refine gx_iload_n X (j := 0) dX10_tag_30 rfl rfl ?_
    obtain ⟨k8, h⟩ := h
    obtain ⟨k9, h⟩ := h
    refine gx_iald X k8 k9 dX10_tag_31 ?_
    refine gx_iconst X (v := 1) dX10_tag_32 (by decide) ?_
    refine gx_iadd X dX10_tag_33 ?_
    refine gx_nami (fun x10 ex10 => ?_)
    replace h := h x10 ex10
    refine gx_istore_n X (lv' := [(2, .int x10), (1, .int r6), (0, .ref (ex_ad E v0))]) dX10_tag_34 rfl (by decide) rfl ?_
    refine gx_aload_n X (j := 2) dX10_tag_35 rfl rfl ?_
    refine gx_aload_n X (j := 2) dX10_tag_36 rfl rfl ?_
    refine gx_get X k1 rfl iwX10 16 (by decide) mw_537 (v := .ref (ex_ad E (gx_r u5 v0 16))) rfl dX10_tag_37 ?_
    refine gx_get X k7 rfl iwX8 3 (by decide) mw_464 (v := .ref (ex_ad E (gx_r u5 (gx_r u5 v0 16) 3))) rfl dX10_tag_40 ?_
    refine gx_iload_n X (j := 1) dX10_tag_43 rfl rfl ?_
    obtain ⟨k11, h⟩ := h
    obtain ⟨k12, h⟩ := h
    refine gx_iald X k11 k12 dX10_tag_44 ?_
    refine gx_iload_n X (j := 0) dX10_tag_45 rfl rfl ?_
    refine gx_isub X dX10_tag_46 ?_
    refine gx_put X k1 rfl iwX10 tyX10_ok nmX10 2 (by decide) mw_523 rfl rfl rfl (fun _ => rfl) dX10_tag_47 ?_
    refine gx_nams (fun u13 eu13 => ?_)
    replace h := h u13 eu13
    refine gx_aload_n X (j := 2) dX10_tag_50 rfl rfl ?_
    refine gx_get X k1 rfl iwX10 16 (by decide) mw_537 (v := .ref (ex_ad E (gx_r u13 v0 16))) rfl dX10_tag_51 ?_
    obtain ⟨k14, h⟩ := h
    refine gx_get X k14 rfl iwX8 0 (by decide) mw_459 (v := .ref (ex_ad E (gx_r u13 (gx_r u13 v0 16) 0))) rfl dX10_tag_54 ?_
    obtain ⟨k15, h⟩ := h
    refine gx_get X k15 rfl iwX9 0 (by decide) mw_441 (v := .ref (ex_ad E (gx_r u13 (gx_r u13 (gx_r u13 v0 16) 0) 0))) rfl dX10_tag_57 ?_
    refine gx_iload_n X (j := 0) dX10_tag_60 rfl rfl ?_
    refine gx_aload_n X (j := 2) dX10_tag_61 rfl rfl ?_
    refine gx_get X k1 rfl iwX10 3 (by decide) mw_524 (v := .ref (ex_ad E (gx_r u13 v0 3))) rfl dX10_tag_62 ?_
    refine gx_iconst X (v := 0) dX10_tag_65 (by decide) ?_
    refine gx_aload_n X (j := 2) dX10_tag_66 rfl rfl ?_
    refine gx_get X k1 rfl iwX10 2 (by decide) mw_523 (v := .int (gx_i u13 v0 2)) rfl dX10_tag_67 ?_
    obtain ⟨k16, h⟩ := h
    obtain ⟨k17, h⟩ := h
    obtain ⟨k18, k19, k20, k21, k22, h⟩ := h
    refine gx_copy X (Nat.le_trans (by decide) hd) k16 k17 rfl k18 k19 k20 k21 k22 mw_648 mw_339 mw_338 mw_12 (Nat.le_of_ble_eq_true rfl) dX10_tag_70 ?_
    refine gx_nams (fun u23 eu23 => ?_)
    replace h := h u23 eu23
    refine gx_aload_n X (j := 2) dX10_tag_73 rfl rfl ?_
    refine gx_get X k1 rfl iwX10 2 (by decide) mw_523 (v := .int (gx_i u23 v0 2)) rfl dX10_tag_74 ?_
    exact gx_iret X hQ h dX10_tag_77
  · replace h := h.2 c24
    refine gx_bipush X (v := -2) dX10_tag_20 (by decide) ?_
    exact gx_iret X hQ h dX10_tag_22
theorem c_X10_tag {l : Launch} {Z : gx_Z} {u : gx_S} {v0 : Nat} {post : Int32 → gx_S → Prop} (h : S_X10_tag u v0 post) : Met l yX10_tag (Cond.code yX10_tag cX10_tag 3 (some .int) :: gx_TB) (gx_rm 1) (gx_Pre Z u [.ref (Z.2.1 v0)]) (va_Qi post (gx_B Z) (gx_A Z)) 0 0 (gx_A Z) := by
  refine gx_met (by decide +kernel) (Nat.le_of_ble_eq_true rfl) ?_
  intro E X hZ hQ hD hL
  subst hZ
  exact w_X10_tag X (Nat.le_of_eq hD.symm) hQ h
theorem vfF_some {G N : List Nat} {q n j : Nat} : ∀ d i, vfF G N q n d i = some j → i ≤ j ∧ j < i + d ∧ lettLen G (frp G j) = n
  | 0, i, h => by cases h
  | d + 1, i, h => by
    unfold vfF at h
    split at h
    · rename_i w
      cases h
      exact ⟨Nat.le_refl _, by omega, w.1⟩
    · have := vfF_some d (i + 1) h
      omega
/-- the tags told: what find gives is what vo gives -/
theorem mg_vo {u : gx_S} {t : Nat} {G : List Nat} (h : mg u t G) : ∃ m, gx_i u t 4 = nI m ∧ m ≤ 40 ∧ G.length ≤ 2000 ∧ rdb G (gx_a u (tbx t)) ∧ arT u t G m ∧ (∀ i, i < m → lettLen G (frp G i) ≠ 0) ∧ ∀ N, vo G G.length N 0 N.length = (vfF G N 0 N.length m 0).map (fun j => frp G j + N.length + 1) := by
  obtain ⟨m, m1, m2, m3, m4, m5, m6, m7⟩ := h
  by_cases z : m = 0
  · subst z
    refine ⟨0, m1, m2, m5, m6, m7, fun i hi => absurd hi (by omega), fun N => ?_⟩
    rw [m3 rfl]
    rfl
  · have e := m4 z
    have hz : ct G ≠ 0 := by omega
    have fr := ct_fr hz
    refine ⟨m, m1, m2, m5, m6, m7, fun i hi => (fr i (by omega)).2.1, fun N => ?_⟩
    refine vo_vf (m := m) (fun i hi => ?_) ?_ 40 m 0 (by omega) m2
    · have := (ll_ok (fr i (by omega)).2.1).2.2
      omega
    · obtain ⟨m', rfl⟩ : ∃ m', m = m' + 1 := ⟨m - 1, by omega⟩
      show G.length ≤ fnd G 59 (frp G m') + 1
      have := (fr m' (by omega)).2.2.2 (by omega)
      omega
theorem q_tag {u : gx_S} {t k : Nat} {T O M G : List Nat} {HC KC : Nat → Int32} {post : Int32 → gx_S → Prop} (h : mS u t T O M k G HC KC) (h1 : ∀ w, vo G G.length T 0 T.length = some w → ∀ v, exM u v → mS v t [] (tvO G w) M k G HC KC → post (nI (tvO G w).length) v) (h2 : vo G G.length T 0 T.length = none → ∀ v, exM u v → mS v t [] O M k G HC KC → post (-2) v) : S_X10_tag u 21 post := by
  have hT := h.2.2.1
  have ht := h.1
  refine ⟨isO21, isO21, ?_⟩
  intro x2 e2 u3 e3
  have s := mS_t h (v := u3) (T' := []) (by rw [e3]; exact exG_pi _ _ (by simp)) (by rw [e3]; exact mt_cut hT (n := 0) (by omega))
  have a28 : gx_a u3 28 = gx_a u 28 := by rw [e3]; rfl
  have hf := s.1.2.1
  obtain ⟨k1, k2, k3, k4, k5, k6, k7, k8, k9, k10⟩ := tg_k ht
  obtain ⟨m, m1, m2, m3, m4, m5, m6, m7⟩ := mg_vo s.1.2.2.2.2.2.1
  have m7 := m7 T
  rw [e2, hT.1, show gx_r u 21 16 = t from h.2.1 21 16 (by decide) (by decide), show gx_r u 21 0 = 28 from h.2.1 21 0 (by decide) (by decide)]
  refine ⟨k1, t, m, G, T, ht, hf, rfl, m4, m3, m1, m2, m5, m6, by rw [a28]; exact hT.2.2, hT.2.1, rfl, ?_⟩
  cases hv : vfF G T 0 T.length m 0 with
  | none =>
    rw [hv] at m7
    exact ⟨fun q => absurd q (by decide), fun _ => h2 m7 u3 s.2 s.1⟩
  | some j =>
    rw [hv] at m7
    obtain ⟨_, v1, v2⟩ := vfF_some _ _ hv
    obtain ⟨a1, a2, a3⟩ := m5 j (by omega)
    obtain ⟨l1, l2⟩ := ll_fnd (m6 j (by omega))
    have fl := fnd_le G 59 (frp G j)
    rw [v2] at a2 l1 l2
    obtain ⟨r1, r2, r3, r4, r5⟩ := tg_r ht hf
    refine ⟨fun _ => ?_, fun q => absurd (Int32.not_lt.mp (nI_pos (by omega))) q⟩
    rw [show gx_r u3 21 16 = t from hf 21 16 (by decide) (by decide)]
    refine ⟨k1, ?_⟩
    rw [r4, r5]
    rw [show oJ (some j) = nI j from rfl, nI_clamp (by omega), a2, a3]
    refine ⟨k5.r, inL k9 (by omega) (by omega), fun x10 e10 => ?_⟩
    rw [nI_1] at e10
    subst e10
    refine ⟨k6.r, inL k10 (by omega) (by omega), fun u13 e13 => ?_⟩
    rw [nsub (a := fnd G 59 (frp G j)) (b := frp G j + T.length + 1) l1 (B := nI (frp G j + T.length + 1)) rfl] at e13
    have x13 : exG [29] [(21, 2)] u3 u13 := by rw [e13]; exact exG_pi _ _ (by simp)
    have f13 := exG_mfix x13 hf
    obtain ⟨p1, p2, p3, p4, p5⟩ := tg_r ht f13
    have i13 : gx_i u13 21 2 = nI (fnd G 59 (frp G j) - (frp G j + T.length + 1)) := by rw [e13, gx_i_pi, if_pos ⟨rfl, rfl⟩]
    rw [show gx_r u13 21 16 = t from f13 21 16 (by decide) (by decide), p1, p2, show gx_r u13 21 3 = 29 from f13 21 3 (by decide) (by decide), i13, nI_clamp (by omega), nI_clamp (by omega)]
    refine ⟨k1, k2, k3.r, isA29, nI_pos (by omega), by decide, nI_pos (by omega), by rw [k7]; omega, by show 0 + _ ≤ 4000; omega, fun u23 e23 => ?_⟩
    have x23 : exG [29] [(21, 2)] u3 u23 := exG_tr x13 (by rw [e23]; exact exG_pa _ _ (by simp))
    have hlen : (tvO G (frp G j + T.length + 1)).length = fnd G 59 (frp G j) - (frp G j + T.length + 1) := by
      unfold tvO
      rw [List.length_take, List.length_drop, l2]
      omega
    have hmo : mo u23 (tvO G (frp G j + T.length + 1)) := by
      refine ⟨?_, by rw [hlen]; omega, ?_⟩
      · rw [e23, gx_i_pa, i13, hlen]
      · have g : gx_a u23 29 = va_cpy (gx_a u3 (tbx t)) (gx_a u3 29) (frp G j + T.length + 1) 0 (fnd G 59 (frp G j) - (frp G j + T.length + 1)) := by
          rw [e23, gx_a_pa, if_pos rfl, e13]
          rfl
        rw [g]
        refine ⟨fun c hc => m4.1 c (List.mem_of_mem_drop (List.mem_of_mem_take hc)), fun i hi => ?_⟩
        rw [hlen] at hi
        have e1 : va_cpy (gx_a u3 (tbx t)) (gx_a u3 29) (frp G j + T.length + 1) 0 (fnd G 59 (frp G j) - (frp G j + T.length + 1)) i = gx_a u3 (tbx t) (frp G j + T.length + 1 + i) := by
          unfold va_cpy
          rw [if_pos ⟨by omega, by omega⟩]
          congr 1
        rw [e1, m4.2 _ (by omega)]
        congr 1
        unfold tvO ch
        rw [l2, List.getD_eq_getElem?_getD, List.getD_eq_getElem?_getD, List.getElem?_take, if_pos (by omega), List.getElem?_drop]
    have s2 := mS_o s.1 x23 hmo
    have hr : gx_i u23 21 2 = nI (tvO G (frp G j + T.length + 1)).length := hmo.1
    rw [hr]
    exact h1 _ m7 u23 (exM_tr s.2 s2.2) s2.1

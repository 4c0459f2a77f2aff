-- PlainSealModel$Tags.find([BI)I
theorem dX8_find_0 : decode cX8_find 0 = .ok (.iconst 0, 1) := by decide +kernel
theorem dX8_find_1 : decode cX8_find 1 = .ok (.istore_n 3, 1) := by decide +kernel
theorem dX8_find_2 : decode cX8_find 2 = .ok (.iload_n 3, 1) := by decide +kernel
theorem dX8_find_3 : decode cX8_find 3 = .ok (.aload_n 0, 1) := by decide +kernel
theorem dX8_find_4 : decode cX8_find 4 = .ok (.getfield 30, 3) := by decide +kernel
theorem dX8_find_7 : decode cX8_find 7 = .ok (.if_icmp .ge 91, 3) := by decide +kernel
theorem dX8_find_10 : decode cX8_find 10 = .ok (.aload_n 0, 1) := by decide +kernel
theorem dX8_find_11 : decode cX8_find 11 = .ok (.getfield 15, 3) := by decide +kernel
theorem dX8_find_14 : decode cX8_find 14 = .ok (.iload_n 3, 1) := by decide +kernel
theorem dX8_find_15 : decode cX8_find 15 = .ok (.iaload, 1) := by decide +kernel
theorem dX8_find_16 : decode cX8_find 16 = .ok (.aload_n 0, 1) := by decide +kernel
theorem dX8_find_17 : decode cX8_find 17 = .ok (.getfield 9, 3) := by decide +kernel
theorem dX8_find_20 : decode cX8_find 20 = .ok (.iload_n 3, 1) := by decide +kernel
theorem dX8_find_21 : decode cX8_find 21 = .ok (.iaload, 1) := by decide +kernel
theorem dX8_find_22 : decode cX8_find 22 = .ok (.isub, 1) := by decide +kernel
theorem dX8_find_23 : decode cX8_find 23 = .ok (.iload_n 2, 1) := by decide +kernel
theorem dX8_find_24 : decode cX8_find 24 = .ok (.if_icmp .ne 7, 3) := by decide +kernel
theorem dX8_find_27 : decode cX8_find 27 = .ok (.iconst 1, 1) := by decide +kernel
theorem dX8_find_28 : decode cX8_find 28 = .ok (.goto 4, 3) := by decide +kernel
theorem dX8_find_31 : decode cX8_find 31 = .ok (.iconst 0, 1) := by decide +kernel
theorem dX8_find_32 : decode cX8_find 32 = .ok (.istore 4, 2) := by decide +kernel
theorem dX8_find_34 : decode cX8_find 34 = .ok (.iconst 0, 1) := by decide +kernel
theorem dX8_find_35 : decode cX8_find 35 = .ok (.istore 5, 2) := by decide +kernel
theorem dX8_find_37 : decode cX8_find 37 = .ok (.iload 5, 2) := by decide +kernel
theorem dX8_find_39 : decode cX8_find 39 = .ok (.iload_n 2, 1) := by decide +kernel
theorem dX8_find_40 : decode cX8_find 40 = .ok (.if_icmp .ge 45, 3) := by decide +kernel
theorem dX8_find_43 : decode cX8_find 43 = .ok (.iload 4, 2) := by decide +kernel
theorem dX8_find_45 : decode cX8_find 45 = .ok (.ifCond .eq 40, 3) := by decide +kernel
theorem dX8_find_48 : decode cX8_find 48 = .ok (.aload_n 0, 1) := by decide +kernel
theorem dX8_find_49 : decode cX8_find 49 = .ok (.getfield 26, 3) := by decide +kernel
theorem dX8_find_52 : decode cX8_find 52 = .ok (.getfield 37, 3) := by decide +kernel
theorem dX8_find_55 : decode cX8_find 55 = .ok (.aload_n 0, 1) := by decide +kernel
theorem dX8_find_56 : decode cX8_find 56 = .ok (.getfield 9, 3) := by decide +kernel
theorem dX8_find_59 : decode cX8_find 59 = .ok (.iload_n 3, 1) := by decide +kernel
theorem dX8_find_60 : decode cX8_find 60 = .ok (.iaload, 1) := by decide +kernel
theorem dX8_find_61 : decode cX8_find 61 = .ok (.iload 5, 2) := by decide +kernel
theorem dX8_find_63 : decode cX8_find 63 = .ok (.iadd, 1) := by decide +kernel
theorem dX8_find_64 : decode cX8_find 64 = .ok (.baload, 1) := by decide +kernel
theorem dX8_find_65 : decode cX8_find 65 = .ok (.aload_n 1, 1) := by decide +kernel
theorem dX8_find_66 : decode cX8_find 66 = .ok (.iload 5, 2) := by decide +kernel
theorem dX8_find_68 : decode cX8_find 68 = .ok (.baload, 1) := by decide +kernel
theorem dX8_find_69 : decode cX8_find 69 = .ok (.if_icmp .ne 7, 3) := by decide +kernel
theorem dX8_find_72 : decode cX8_find 72 = .ok (.iconst 1, 1) := by decide +kernel
theorem dX8_find_73 : decode cX8_find 73 = .ok (.goto 4, 3) := by decide +kernel
theorem dX8_find_76 : decode cX8_find 76 = .ok (.iconst 0, 1) := by decide +kernel
theorem dX8_find_77 : decode cX8_find 77 = .ok (.istore 4, 2) := by decide +kernel
theorem dX8_find_79 : decode cX8_find 79 = .ok (.iinc 5 1, 3) := by decide +kernel
theorem dX8_find_82 : decode cX8_find 82 = .ok (.goto (-45), 3) := by decide +kernel
theorem dX8_find_85 : decode cX8_find 85 = .ok (.iload 4, 2) := by decide +kernel
theorem dX8_find_87 : decode cX8_find 87 = .ok (.ifCond .eq 5, 3) := by decide +kernel
theorem dX8_find_90 : decode cX8_find 90 = .ok (.iload_n 3, 1) := by decide +kernel
theorem dX8_find_91 : decode cX8_find 91 = .ok (.ireturn, 1) := by decide +kernel
theorem dX8_find_92 : decode cX8_find 92 = .ok (.iinc 3 1, 3) := by decide +kernel
theorem dX8_find_95 : decode cX8_find 95 = .ok (.goto (-93), 3) := by decide +kernel
theorem dX8_find_98 : decode cX8_find 98 = .ok (.iconst (-1), 1) := by decide +kernel
theorem dX8_find_99 : decode cX8_find 99 = .ok (.ireturn, 1) := by decide +kernel
theorem hyX8_find : yX8_find.cls ≠ "java/lang/invoke/MethodHandle" ∧ yX8_find.cls ≠ "java/lang/invoke/VarHandle" ∧ (parseMethodDescriptor yX8_find.desc).map (fun d => d.parameters.length) = some 2 := by decide +kernel
abbrev J_X8_find_2 (E : gx_E) (v0 : Nat) (v1 : Nat) (v2 : Int32) (v3 : Int32) (u : gx_S) : Prop := gx_Wc E 6 2 [(0, .ref (ex_ad E v0)), (1, .ref (ex_ad E v1)), (2, .int v2), (3, .int v3)] [] u
abbrev J_X8_find_37 (E : gx_E) (v0 : Nat) (v1 : Nat) (v2 : Int32) (v3 : Int32) (v4 : Int32) (v5 : Int32) (u : gx_S) : Prop := gx_Wc E 6 37 [(0, .ref (ex_ad E v0)), (1, .ref (ex_ad E v1)), (2, .int v2), (3, .int v3), (4, .int v4), (5, .int v5)] [] u
set_option maxHeartbeats 4000000 in
set_option maxRecDepth 100000 in
theorem w_X8_find_0 {E : gx_E} (X : gx_X E cX8_find 6 RX8 (some .int)) (hd : 0 ≤ ex_d E) {post : Int32 → gx_S → Prop} (hQ : ex_Q E = va_Qi post (gx_B (ex_Z E)) (gx_A (ex_Z E))) {u : gx_S} {v0 : Nat} {v1 : Nat} {v2 : Int32} (h : J_X8_find_2 E v0 v1 v2 (0 : Int32) u) : gx_Wc E 6 0 [(0, .ref (ex_ad E v0)), (1, .ref (ex_ad E v1)), (2, .int v2)] [] u := by
  refine gx_iconst X (v := 0) dX8_find_0 (by decide) ?_
  refine gx_istore_n X (lv' := [(3, .int (0 : Int32)), (0, .ref (ex_ad E v0)), (1, .ref (ex_ad E v1)), (2, .int v2)]) dX8_find_1 rfl (by decide) rfl ?_
  exact gx_sub [1, 2, 3, 0] rfl h
set_option maxHeartbeats 4000000 in
set_option maxRecDepth 100000 in
theorem w_X8_find_2 {E : gx_E} (X : gx_X E cX8_find 6 RX8 (some .int)) (hd : 0 ≤ ex_d E) {post : Int32 → gx_S → Prop} (hQ : ex_Q E = va_Qi post (gx_B (ex_Z E)) (gx_A (ex_Z E))) {u : gx_S} {v0 : Nat} {v1 : Nat} {v2 : Int32} {v3 : Int32} (h : (gx_isO v0 7 ∧ (((gx_i u v0 4) ≤ v3 → post (-1 : Int32) u) ∧ (¬ (gx_i u v0 4) ≤ v3 → (gx_isR (gx_r u v0 2) .int ∧ vp_in v3 (gx_len (gx_r u v0 2)) ∧ (gx_isR (gx_r u v0 1) .int ∧ vp_in v3 (gx_len (gx_r u v0 1)) ∧ ((¬ ((gx_a u (gx_r u v0 2) v3.toNatClampNeg) - (gx_a u (gx_r u v0 1) v3.toNatClampNeg)) = v2 → J_X8_find_37 E v0 v1 v2 v3 (0 : Int32) (0 : Int32) u) ∧ (((gx_a u (gx_r u v0 2) v3.toNatClampNeg) - (gx_a u (gx_r u v0 1) v3.toNatClampNeg)) = v2 → J_X8_find_37 E v0 v1 v2 v3 (1 : Int32) (0 : Int32) u)))))))) : gx_Wc E 6 2 [(0, .ref (ex_ad E v0)), (1, .ref (ex_ad E v1)), (2, .int v2), (3, .int v3)] [] u := by
  refine gx_iload_n X (j := 3) dX8_find_2 rfl rfl ?_
  refine gx_aload_n X (j := 0) dX8_find_3 rfl rfl ?_
  obtain ⟨k1, h⟩ := h
  refine gx_get X k1 rfl iwX8 4 (by decide) mw_465 (v := .int (gx_i u v0 4)) rfl dX8_find_4 ?_
  refine gx_icmp_ge X (tgt := 98) dX8_find_7 (by decide) (fun c7 => ?_) (fun c7 => ?_)
  · replace h := h.1 c7
    refine gx_iconst X (v := -1) dX8_find_98 (by decide) ?_
    exact gx_iret X hQ h dX8_find_99
  · replace h := h.2 c7
    refine gx_aload_n X (j := 0) dX8_find_10 rfl rfl ?_
    refine gx_get X k1 rfl iwX8 2 (by decide) mw_461 (v := .ref (ex_ad E (gx_r u v0 2))) rfl dX8_find_11 ?_
    refine gx_iload_n X (j := 3) dX8_find_14 rfl rfl ?_
    obtain ⟨k2, h⟩ := h
    obtain ⟨k3, h⟩ := h
    refine gx_iald X k2 k3 dX8_find_15 ?_
    refine gx_aload_n X (j := 0) dX8_find_16 rfl rfl ?_
    refine gx_get X k1 rfl iwX8 1 (by decide) mw_460 (v := .ref (ex_ad E (gx_r u v0 1))) rfl dX8_find_17 ?_
    refine gx_iload_n X (j := 3) dX8_find_20 rfl rfl ?_
    obtain ⟨k4, h⟩ := h
    obtain ⟨k5, h⟩ := h
    refine gx_iald X k4 k5 dX8_find_21 ?_
    refine gx_isub X dX8_find_22 ?_
    refine gx_iload_n X (j := 2) dX8_find_23 rfl rfl ?_
    refine gx_icmp_ne X (tgt := 31) dX8_find_24 (by decide) (fun c6 => ?_) (fun c6 => ?_)
    · replace h := h.1 c6
      refine gx_iconst X (v := 0) dX8_find_31 (by decide) ?_
      refine gx_istore X (lv' := [(4, .int (0 : Int32)), (0, .ref (ex_ad E v0)), (1, .ref (ex_ad E v1)), (2, .int v2), (3, .int v3)]) dX8_find_32 (by decide) rfl ?_
      refine gx_iconst X (v := 0) dX8_find_34 (by decide) ?_
      refine gx_istore X (lv' := [(5, .int (0 : Int32)), (4, .int (0 : Int32)), (0, .ref (ex_ad E v0)), (1, .ref (ex_ad E v1)), (2, .int v2), (3, .int v3)]) dX8_find_35 (by decide) rfl ?_
      exact gx_sub [2, 3, 4, 5, 1, 0] rfl h
    · replace h := h.2 c6
      refine gx_iconst X (v := 1) dX8_find_27 (by decide) ?_
      refine gx_goto X (tgt := 32) dX8_find_28 (by decide) ?_
      refine gx_istore X (lv' := [(4, .int (1 : Int32)), (0, .ref (ex_ad E v0)), (1, .ref (ex_ad E v1)), (2, .int v2), (3, .int v3)]) dX8_find_32 (by decide) rfl ?_
      refine gx_iconst X (v := 0) dX8_find_34 (by decide) ?_
      refine gx_istore X (lv' := [(5, .int (0 : Int32)), (4, .int (1 : Int32)), (0, .ref (ex_ad E v0)), (1, .ref (ex_ad E v1)), (2, .int v2), (3, .int v3)]) dX8_find_35 (by decide) rfl ?_
      exact gx_sub [2, 3, 4, 5, 1, 0] rfl h
set_option maxHeartbeats 4000000 in
set_option maxRecDepth 100000 in
theorem w_X8_find_37 {E : gx_E} (X : gx_X E cX8_find 6 RX8 (some .int)) (hd : 0 ≤ ex_d E) {post : Int32 → gx_S → Prop} (hQ : ex_Q E = va_Qi post (gx_B (ex_Z E)) (gx_A (ex_Z E))) {u : gx_S} {v0 : Nat} {v1 : Nat} {v2 : Int32} {v3 : Int32} {v4 : Int32} {v5 : Int32} (h : ((v2 ≤ v5 → ((v4 = 0 → (∀ x1 : Int32, x1 = v3 + 1 → J_X8_find_2 E v0 v1 v2 x1 u)) ∧ (¬ v4 = 0 → post v3 u))) ∧ (¬ v2 ≤ v5 → ((v4 = 0 → ((v4 = 0 → (∀ x3 : Int32, x3 = v3 + 1 → J_X8_find_2 E v0 v1 v2 x3 u)) ∧ (¬ v4 = 0 → post v3 u))) ∧ (¬ v4 = 0 → (gx_isO v0 7 ∧ (gx_isO (gx_r u v0 0) 8 ∧ (gx_isR (gx_r u v0 1) .int ∧ vp_in v3 (gx_len (gx_r u v0 1)) ∧ (gx_isR (gx_r u (gx_r u v0 0) 0) .byte ∧ vp_in ((gx_a u (gx_r u v0 1) v3.toNatClampNeg) + v5) (gx_len (gx_r u (gx_r u v0 0) 0)) ∧ (gx_isR v1 .byte ∧ vp_in v5 (gx_len v1) ∧ ((¬ (gx_a u (gx_r u (gx_r u v0 0) 0) ((gx_a u (gx_r u v0 1) v3.toNatClampNeg) + v5).toNatClampNeg) = (gx_a u v1 v5.toNatClampNeg) → (∀ x13 : Int32, x13 = v5 + 1 → J_X8_find_37 E v0 v1 v2 v3 (0 : Int32) x13 u)) ∧ ((gx_a u (gx_r u (gx_r u v0 0) 0) ((gx_a u (gx_r u v0 1) v3.toNatClampNeg) + v5).toNatClampNeg) = (gx_a u v1 v5.toNatClampNeg) → (∀ x14 : Int32, x14 = v5 + 1 → J_X8_find_37 E v0 v1 v2 v3 (1 : Int32) x14 u))))))))))))) : gx_Wc E 6 37 [(0, .ref (ex_ad E v0)), (1, .ref (ex_ad E v1)), (2, .int v2), (3, .int v3), (4, .int v4), (5, .int v5)] [] u := by
  refine gx_iload X (j := 5) dX8_find_37 rfl ?_
  refine gx_iload_n X (j := 2) dX8_find_39 rfl rfl ?_
  refine gx_icmp_ge X (tgt := 85) dX8_find_40 (by decide) (fun c17 => ?_) (fun c17 => ?_)
  · replace h := h.1 c17
    refine gx_iload X (j := 4) dX8_find_85 rfl ?_
    refine gx_if_eq X (tgt := 92) dX8_find_87 (by decide) (fun c2 => ?_) (fun c2 => ?_)
    · replace h := h.1 c2
      obtain ⟨x1, ex1⟩ : ∃ y : Int32, y = v3 + 1 := ⟨_, rfl⟩
      replace h := h x1 ex1
      refine gx_iinc X (v := x1) (lv' := [(3, .int x1), (0, .ref (ex_ad E v0)), (1, .ref (ex_ad E v1)), (2, .int v2), (4, .int v4), (5, .int v5)]) dX8_find_92 (j := 3) rfl (by rw [ex1]; rfl) (by decide) rfl ?_
      refine gx_goto X (tgt := 2) dX8_find_95 (by decide) ?_
      exact gx_sub [1, 2, 3, 0] rfl h
    · replace h := h.2 c2
      refine gx_iload_n X (j := 3) dX8_find_90 rfl rfl ?_
      exact gx_iret X hQ h dX8_find_91
  · replace h := h.2 c17
    refine gx_iload X (j := 4) dX8_find_43 rfl ?_
    refine gx_if_eq X (tgt := 85) dX8_find_45 (by decide) (fun c16 => ?_) (fun c16 => ?_)
    · replace h := h.1 c16
      refine gx_iload X (j := 4) dX8_find_85 rfl ?_
      refine gx_if_eq X (tgt := 92) dX8_find_87 (by decide) (fun c4 => ?_) (fun c4 => ?_)
      · replace h := h.1 c4
        obtain ⟨x3, ex3⟩ : ∃ y : Int32, y = v3 + 1 := ⟨_, rfl⟩
        replace h := h x3 ex3
        refine gx_iinc X (v := x3) (lv' := [(3, .int x3), (0, .ref (ex_ad E v0)), (1, .ref (ex_ad E v1)), (2, .int v2), (4, .int v4), (5, .int v5)]) dX8_find_92 (j := 3) rfl (by rw [ex3]; rfl) (by decide) rfl ?_
        refine gx_goto X (tgt := 2) dX8_find_95 (by decide) ?_
        exact gx_sub [1, 2, 3, 0] rfl h
      · replace h := h.2 c4
        refine gx_iload_n X (j := 3) dX8_find_90 rfl rfl ?_
        exact gx_iret X hQ h dX8_find_91
    · replace h := h.2 c16
      refine gx_aload_n X (j := 0) dX8_find_48 rfl rfl ?_
      obtain ⟨k5, h⟩ := h
      refine gx_get X k5 rfl iwX8 0 (by decide) mw_458 (v := .ref (ex_ad E (gx_r u v0 0))) rfl dX8_find_49 ?_
      obtain ⟨k6, h⟩ := h
      refine gx_get X k6 rfl iwX9 0 (by decide) mw_440 (v := .ref (ex_ad E (gx_r u (gx_r u v0 0) 0))) rfl dX8_find_52 ?_
      refine gx_aload_n X (j := 0) dX8_find_55 rfl rfl ?_
      refine gx_get X k5 rfl iwX8 1 (by decide) mw_460 (v := .ref (ex_ad E (gx_r u v0 1))) rfl dX8_find_56 ?_
      refine gx_iload_n X (j := 3) dX8_find_59 rfl rfl ?_
      obtain ⟨k7, h⟩ := h
      obtain ⟨k8, h⟩ := h
      refine gx_iald X k7 k8 dX8_find_60 ?_
      refine gx_iload X (j := 5) dX8_find_61 rfl ?_
      refine gx_iadd X dX8_find_63 ?_
      obtain ⟨k9, h⟩ := h
      obtain ⟨k10, h⟩ := h
      refine gx_bald X k9 k10 dX8_find_64 ?_
      refine gx_aload_n X (j := 1) dX8_find_65 rfl rfl ?_
      refine gx_iload X (j := 5) dX8_find_66 rfl ?_
      obtain ⟨k11, h⟩ := h
      obtain ⟨k12, h⟩ := h
      refine gx_bald X k11 k12 dX8_find_68 ?_
      refine gx_icmp_ne X (tgt := 76) dX8_find_69 (by decide) (fun c15 => ?_) (fun c15 => ?_)
      · replace h := h.1 c15
        refine gx_iconst X (v := 0) dX8_find_76 (by decide) ?_
        refine gx_istore X (lv' := [(4, .int (0 : Int32)), (0, .ref (ex_ad E v0)), (1, .ref (ex_ad E v1)), (2, .int v2), (3, .int v3), (5, .int v5)]) dX8_find_77 (by decide) rfl ?_
        obtain ⟨x13, ex13⟩ : ∃ y : Int32, y = v5 + 1 := ⟨_, rfl⟩
        replace h := h x13 ex13
        refine gx_iinc X (v := x13) (lv' := [(5, .int x13), (4, .int (0 : Int32)), (0, .ref (ex_ad E v0)), (1, .ref (ex_ad E v1)), (2, .int v2), (3, .int v3)]) dX8_find_79 (j := 5) rfl (by rw [ex13]; rfl) (by decide) rfl ?_
        refine gx_goto X (tgt := 37) dX8_find_82 (by decide) ?_
        exact gx_sub [2, 3, 4, 5, 1, 0] rfl h
      · replace h := h.2 c15
        refine gx_iconst X (v := 1) dX8_find_72 (by decide) ?_
        refine gx_goto X (tgt := 77) dX8_find_73 (by decide) ?_
        refine gx_istore X (lv' := [(4, .int (1 : Int32)), (0, .ref (ex_ad E v0)), (1, .ref (ex_ad E v1)), (2, .int v2), (3, .int v3), (5, .int v5)]) dX8_find_77 (by decide) rfl ?_
        obtain ⟨x14, ex14⟩ : ∃ y : Int32, y = v5 + 1 := ⟨_, rfl⟩
        replace h := h x14 ex14
        refine gx_iinc X (v := x14) (lv' := [(5, .int x14), (4, .int (1 : Int32)), (0, .ref (ex_ad E v0)), (1, .ref (ex_ad E v1)), (2, .int v2), (3, .int v3)]) dX8_find_79 (j := 5) rfl (by rw [ex14]; rfl) (by decide) rfl ?_
        refine gx_goto X (tgt := 37) dX8_find_82 (by decide) ?_
        exact gx_sub [2, 3, 4, 5, 1, 0] rfl h
def oJ (x : Option Nat) : Int32 := match x with
  | some j => nI j
  | none => -1
def S_X8_find (u : gx_S) (v0 v1 : Nat) (v2 : Int32) (post : Int32 → gx_S → Prop) : Prop := ∃ (t m : Nat) (G N : List Nat), (v0 = 23 ∨ v0 = 25) ∧ mfix t u ∧ v1 = 28 ∧ rdb G (gx_a u (tbx v0)) ∧ G.length ≤ 2000 ∧ gx_i u v0 4 = nI m ∧ m ≤ 40 ∧ arT u v0 G m ∧ (∀ i, i < m → lettLen G (frp G i) ≠ 0) ∧ rdb N (gx_a u 28) ∧ N.length ≤ 2000 ∧ v2 = nI N.length ∧ post (oJ (vfF G N 0 N.length m 0)) u
theorem lp37 {E : gx_E} (X : gx_X E cX8_find 6 RX8 (some .int)) (hd : 0 ≤ ex_d E) {post : Int32 → gx_S → Prop} (hQ : ex_Q E = va_Qi post (gx_B (ex_Z E)) (gx_A (ex_Z E))) {u : gx_S} {t d p f : Nat} {G N : List Nat} (h0 : d = 23 ∨ d = 25) (hf : mfix t u) (hG : rdb G (gx_a u (tbx d))) (hGl : G.length ≤ 2000) (hN : rdb N (gx_a u 28)) (hNl : N.length ≤ 2000) (hb : gx_a u (tbx d + 1) f = nI p) (hfl : f < 40) {R : Bool} (ht : R = true → post (nI f) u) (hz : R = false → J_X8_find_2 E d 28 (nI N.length) (nI (f + 1)) u) :
    ∀ (n i : Nat) (al : Bool), N.length - i = n → i ≤ N.length → (al = true → p + N.length ≤ G.length) → R = (al && samF G p N 0 n i) → J_X8_find_37 E d 28 (nI N.length) (nI f) (b2 al) (nI i) u := by
  obtain ⟨r1, r2, r3, r4, r5⟩ := tg_r h0 hf
  obtain ⟨k1, k2, k3, k4, k5, k6, k7, k8, k9, k10⟩ := tg_k h0
  have hz2 : R = false → J_X8_find_2 E d 28 (nI N.length) (nI f + 1) u := fun e => by rw [nI_1]; exact hz e
  intro n
  induction n with
  | zero =>
    intro i al hn hi ha hR
    refine w_X8_find_37 X hd hQ ⟨fun _ => ⟨fun q => ?_, fun q => ?_⟩, fun q => absurd (nI_le (by omega) (by omega)) q⟩
    · rw [b2_0] at q
      rintro x rfl
      exact hz2 (by rw [hR, q]; rfl)
    · have q := b2_n0 q
      exact ht (by rw [hR, q]; rfl)
  | succ n ih =>
    intro i al hn hi ha hR
    refine w_X8_find_37 X hd hQ ⟨fun q => absurd q (nI_ge (by omega) (by omega)), fun _ => ⟨fun q => ⟨fun _ => ?_, fun q2 => absurd q q2⟩, fun q => ⟨k1, ?_⟩⟩⟩
    · rw [b2_0] at q
      rintro x rfl
      exact hz2 (by rw [hR, q]; rfl)
    · have q := b2_n0 q
      subst q
      have ha := ha rfl
      have c1 := ch_lt hG.1 (j := p + i) (by omega)
      have c2 := ch_lt hN.1 (j := i) (by omega)
      unfold samF at hR
      rw [r1, r3, r2, nI_clamp (show f < 2 ^ 31 by omega), hb, nI_add, nI_clamp (show p + i < 2 ^ 31 by omega), hG.2 _ (by omega), nI_clamp (show i < 2 ^ 31 by omega), hN.2 i (by omega), sb_inj c1 c2]
      rw [Nat.zero_add] at hR
      refine ⟨k2, k4.r, inL k8 (by omega) (by omega), k3.r, inL k7 (by omega) (by omega), isA28.r, in28 (by omega), fun q => ?_, fun q => ?_⟩
      · rintro x rfl
        rw [nI_1]
        refine ih (i + 1) false (by omega) (by omega) (fun z => absurd z (by decide)) ?_
        rw [hR, if_neg q]
        rfl
      · rintro x rfl
        rw [nI_1]
        refine ih (i + 1) true (by omega) (by omega) (fun _ => ha) ?_
        rw [hR, if_pos q]
theorem w_X8_find {E : gx_E} (X : gx_X E cX8_find 6 RX8 (some .int)) (hd : 0 ≤ ex_d E) {post : Int32 → gx_S → Prop} (hQ : ex_Q E = va_Qi post (gx_B (ex_Z E)) (gx_A (ex_Z E))) {u : gx_S} {v0 v1 : Nat} {v2 : Int32} (h : S_X8_find u v0 v1 v2 post) : gx_Wc E 6 0 [(0, .ref (ex_ad E v0)), (1, .ref (ex_ad E v1)), (2, .int v2)] [] u := by
  obtain ⟨t, m, G, N, h0, hf, rfl, hG, hGl, hi4, hm, har, hl, hN, hNl, rfl, h⟩ := h
  obtain ⟨r1, r2, r3, r4, r5⟩ := tg_r h0 hf
  obtain ⟨k1, k2, k3, k4, k5, k6, k7, k8, k9, k10⟩ := tg_k h0
  have lp : ∀ n f, m - f = n → f ≤ m → post (oJ (vfF G N 0 N.length n f)) u → J_X8_find_2 E v0 28 (nI N.length) (nI f) u := by
    intro n
    induction n with
    | zero =>
      intro f hn hfk h
      refine w_X8_find_2 X hd hQ ⟨k1, fun _ => h, fun q => absurd (by rw [hi4]; exact nI_le (by omega) (by omega)) q⟩
    | succ n ih =>
      intro f hn hfk h
      unfold vfF at h
      obtain ⟨a1, a2, a3⟩ := har f (by omega)
      obtain ⟨l1, l2, l3⟩ := ll_ok (hl f (by omega))
      have l8 := lettLen_le G (frp G f)
      refine w_X8_find_2 X hd hQ ⟨k1, fun q => absurd q (by rw [hi4]; exact nI_ge (by omega) (by omega)), fun _ => ?_⟩
      rw [r3, r4, nI_clamp (by omega), a1, a2, nsub (a := frp G f + lettLen G (frp G f)) (b := frp G f) (by omega) (B := nI (frp G f)) rfl, Nat.add_sub_cancel_left, nI_eq (by omega) (by omega)]
      refine ⟨k5.r, inL k9 (by omega) (by omega), k4.r, inL k8 (by omega) (by omega), fun q => ?_, fun q => ?_⟩
      · refine lp37 X hd hQ (R := false) h0 hf hG hGl hN hNl a1 (by omega) (fun z => absurd z (by decide)) (fun _ => ?_) _ 0 false rfl (by omega) (fun z => absurd z (by decide)) rfl
        rw [if_neg (fun z => q z.1)] at h
        exact ih (f + 1) (by omega) (by omega) h
      · refine lp37 X hd hQ (R := samF G (frp G f) N 0 N.length 0) h0 hf hG hGl hN hNl a1 (by omega) (fun z => ?_) (fun z => ?_) _ 0 true rfl (by omega) (fun _ => by omega) (by simp)
        · rw [if_pos ⟨q, z⟩] at h; exact h
        · rw [if_neg (fun w => by rw [z] at w; cases w.2)] at h
          exact ih (f + 1) (by omega) (by omega) h
  exact w_X8_find_0 X hd hQ (lp m 0 (by omega) (by omega) h)
theorem c_X8_find {l : Launch} {Z : gx_Z} {u : gx_S} {v0 : Nat} {v1 : Nat} {v2 : Int32} {post : Int32 → gx_S → Prop} (h : S_X8_find u v0 v1 v2 post) : Met l yX8_find (Cond.code yX8_find cX8_find 6 (some .int) :: gx_TB) (gx_rm 0) (gx_Pre Z u [.ref (Z.2.1 v0), .ref (Z.2.1 v1), .int v2]) (va_Qi post (gx_B Z) (gx_A Z)) 0 0 (gx_A Z) := by
  refine gx_met (by decide +kernel) (Nat.le_of_ble_eq_true rfl) ?_
  intro E X hZ hQ hD hL
  subst hZ
  exact w_X8_find X (Nat.le_of_eq hD.symm) hQ h

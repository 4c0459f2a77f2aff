-- PlainSealModel.digitOf(I)I
theorem dX10_digitOf_0 : decode cX10_digitOf 0 = .ok (.iload_n 0, 1) := by decide +kernel
theorem dX10_digitOf_1 : decode cX10_digitOf 1 = .ok (.bipush 65, 2) := by decide +kernel
theorem dX10_digitOf_3 : decode cX10_digitOf 3 = .ok (.if_icmp .lt 14, 3) := by decide +kernel
theorem dX10_digitOf_6 : decode cX10_digitOf 6 = .ok (.iload_n 0, 1) := by decide +kernel
theorem dX10_digitOf_7 : decode cX10_digitOf 7 = .ok (.bipush 90, 2) := by decide +kernel
theorem dX10_digitOf_9 : decode cX10_digitOf 9 = .ok (.if_icmp .gt 8, 3) := by decide +kernel
theorem dX10_digitOf_12 : decode cX10_digitOf 12 = .ok (.iload_n 0, 1) := by decide +kernel
theorem dX10_digitOf_13 : decode cX10_digitOf 13 = .ok (.bipush 65, 2) := by decide +kernel
theorem dX10_digitOf_15 : decode cX10_digitOf 15 = .ok (.isub, 1) := by decide +kernel
theorem dX10_digitOf_16 : decode cX10_digitOf 16 = .ok (.ireturn, 1) := by decide +kernel
theorem dX10_digitOf_17 : decode cX10_digitOf 17 = .ok (.iload_n 0, 1) := by decide +kernel
theorem dX10_digitOf_18 : decode cX10_digitOf 18 = .ok (.invokestatic 3, 3) := by decide +kernel
theorem dX10_digitOf_21 : decode cX10_digitOf 21 = .ok (.ifCond .eq 11, 3) := by decide +kernel
theorem dX10_digitOf_24 : decode cX10_digitOf 24 = .ok (.iload_n 0, 1) := by decide +kernel
theorem dX10_digitOf_25 : decode cX10_digitOf 25 = .ok (.bipush 97, 2) := by decide +kernel
theorem dX10_digitOf_27 : decode cX10_digitOf 27 = .ok (.isub, 1) := by decide +kernel
theorem dX10_digitOf_28 : decode cX10_digitOf 28 = .ok (.bipush 26, 2) := by decide +kernel
theorem dX10_digitOf_30 : decode cX10_digitOf 30 = .ok (.iadd, 1) := by decide +kernel
theorem dX10_digitOf_31 : decode cX10_digitOf 31 = .ok (.ireturn, 1) := by decide +kernel
theorem dX10_digitOf_32 : decode cX10_digitOf 32 = .ok (.iload_n 0, 1) := by decide +kernel
theorem dX10_digitOf_33 : decode cX10_digitOf 33 = .ok (.invokestatic 126, 3) := by decide +kernel
theorem dX10_digitOf_36 : decode cX10_digitOf 36 = .ok (.ifCond .eq 11, 3) := by decide +kernel
theorem dX10_digitOf_39 : decode cX10_digitOf 39 = .ok (.iload_n 0, 1) := by decide +kernel
theorem dX10_digitOf_40 : decode cX10_digitOf 40 = .ok (.bipush 48, 2) := by decide +kernel
theorem dX10_digitOf_42 : decode cX10_digitOf 42 = .ok (.isub, 1) := by decide +kernel
theorem dX10_digitOf_43 : decode cX10_digitOf 43 = .ok (.bipush 52, 2) := by decide +kernel
theorem dX10_digitOf_45 : decode cX10_digitOf 45 = .ok (.iadd, 1) := by decide +kernel
theorem dX10_digitOf_46 : decode cX10_digitOf 46 = .ok (.ireturn, 1) := by decide +kernel
theorem dX10_digitOf_47 : decode cX10_digitOf 47 = .ok (.iload_n 0, 1) := by decide +kernel
theorem dX10_digitOf_48 : decode cX10_digitOf 48 = .ok (.bipush 43, 2) := by decide +kernel
theorem dX10_digitOf_50 : decode cX10_digitOf 50 = .ok (.if_icmp .ne 8, 3) := by decide +kernel
theorem dX10_digitOf_53 : decode cX10_digitOf 53 = .ok (.bipush 62, 2) := by decide +kernel
theorem dX10_digitOf_55 : decode cX10_digitOf 55 = .ok (.goto 15, 3) := by decide +kernel
theorem dX10_digitOf_58 : decode cX10_digitOf 58 = .ok (.iload_n 0, 1) := by decide +kernel
theorem dX10_digitOf_59 : decode cX10_digitOf 59 = .ok (.bipush 47, 2) := by decide +kernel
theorem dX10_digitOf_61 : decode cX10_digitOf 61 = .ok (.if_icmp .ne 8, 3) := by decide +kernel
theorem dX10_digitOf_64 : decode cX10_digitOf 64 = .ok (.bipush 63, 2) := by decide +kernel
theorem dX10_digitOf_66 : decode cX10_digitOf 66 = .ok (.goto 4, 3) := by decide +kernel
theorem dX10_digitOf_69 : decode cX10_digitOf 69 = .ok (.iconst (-1), 1) := by decide +kernel
theorem dX10_digitOf_70 : decode cX10_digitOf 70 = .ok (.ireturn, 1) := by decide +kernel
theorem hyX10_digitOf : yX10_digitOf.cls ≠ "java/lang/invoke/MethodHandle" ∧ yX10_digitOf.cls ≠ "java/lang/invoke/VarHandle" ∧ (parseMethodDescriptor yX10_digitOf.desc).map (fun d => d.parameters.length) = some 1 := by decide +kernel
def S_X10_digitOf (u : gx_S) (v0 : Int32) (post : Int32 → gx_S → Prop) : Prop := ((v0 < (65 : Int32) → (S_X10_isSmall u v0 (fun (r2 : Int32) (u1 : gx_S) => ((r2 = 0 → (S_X10_isDigit u1 v0 (fun (r4 : Int32) (u3 : gx_S) => ((r4 = 0 → ((¬ v0 = (43 : Int32) → ((¬ v0 = (47 : Int32) → post (-1 : Int32) u3) ∧ (v0 = (47 : Int32) → post (63 : Int32) u3))) ∧ (v0 = (43 : Int32) → post (62 : Int32) u3))) ∧ (¬ r4 = 0 → post ((v0 - (48 : Int32)) + (52 : Int32)) u3))))) ∧ (¬ r2 = 0 → post ((v0 - (97 : Int32)) + (26 : Int32)) u1))))) ∧ (¬ v0 < (65 : Int32) → (((90 : Int32) < v0 → (S_X10_isSmall u v0 (fun (r10 : Int32) (u9 : gx_S) => ((r10 = 0 → (S_X10_isDigit u9 v0 (fun (r12 : Int32) (u11 : gx_S) => ((r12 = 0 → ((¬ v0 = (43 : Int32) → ((¬ v0 = (47 : Int32) → post (-1 : Int32) u11) ∧ (v0 = (47 : Int32) → post (63 : Int32) u11))) ∧ (v0 = (43 : Int32) → post (62 : Int32) u11))) ∧ (¬ r12 = 0 → post ((v0 - (48 : Int32)) + (52 : Int32)) u11))))) ∧ (¬ r10 = 0 → post ((v0 - (97 : Int32)) + (26 : Int32)) u9))))) ∧ (¬ (90 : Int32) < v0 → post (v0 - (65 : Int32)) u))))
set_option maxHeartbeats 4000000 in
set_option maxRecDepth 100000 in
theorem w_X10_digitOf {E : gx_E} (X : gx_X E cX10_digitOf 1 RX10 (some .int)) (hd : 1 ≤ ex_d E) {post : Int32 → gx_S → Prop} (hQ : ex_Q E = va_Qi post (gx_B (ex_Z E)) (gx_A (ex_Z E))) {u : gx_S} {v0 : Int32} (h : S_X10_digitOf u v0 post) : gx_Wc E 1 0 [(0, .int v0)] [] u := by
  unfold S_X10_digitOf at h
  refine gx_iload_n X (j := 0) dX10_digitOf_0 rfl rfl ?_
  refine gx_bipush X (v := 65) dX10_digitOf_1 (by decide) ?_
  refine gx_icmp_lt X (tgt := 17) dX10_digitOf_3 (by decide) (fun c18 => ?_) (fun c18 => ?_)
  · replace h := h.1 c18
    refine gx_iload_n X (j := 0) dX10_digitOf_17 rfl rfl ?_
    refine gx_ki (gx_rS X (c_X10_isSmall h) (Nat.le_trans (by decide) hd) (Nat.le_trans (by decide) (Nat.mul_le_mul_left 40 hd)) mw_641 mw_642 mw_7 mw_643 hyX10_isSmall (As := [.int v0]) (rest := []) rfl rfl (Nat.le_of_ble_eq_true rfl) dX10_digitOf_18) (fun r2 u1 h => ?_)
    refine gx_if_eq X (tgt := 32) dX10_digitOf_21 (by decide) (fun c8 => ?_) (fun c8 => ?_)
    · replace h := h.1 c8
      refine gx_iload_n X (j := 0) dX10_digitOf_32 rfl rfl ?_
      refine gx_ki (gx_rS X (c_X10_isDigit h) (Nat.le_trans (by decide) hd) (Nat.le_trans (by decide) (Nat.mul_le_mul_left 40 hd)) mw_644 mw_645 mw_7 mw_646 hyX10_isDigit (As := [.int v0]) (rest := []) rfl rfl (Nat.le_of_ble_eq_true rfl) dX10_digitOf_33) (fun r4 u3 h => ?_)
      refine gx_if_eq X (tgt := 47) dX10_digitOf_36 (by decide) (fun c7 => ?_) (fun c7 => ?_)
      · replace h := h.1 c7
        refine gx_iload_n X (j := 0) dX10_digitOf_47 rfl rfl ?_
        refine gx_bipush X (v := 43) dX10_digitOf_48 (by decide) ?_
        refine gx_icmp_ne X (tgt := 58) dX10_digitOf_50 (by decide) (fun c6 => ?_) (fun c6 => ?_)
        · replace h := h.1 c6
          refine gx_iload_n X (j := 0) dX10_digitOf_58 rfl rfl ?_
          refine gx_bipush X (v := 47) dX10_digitOf_59 (by decide) ?_
          refine gx_icmp_ne X (tgt := 69) dX10_digitOf_61 (by decide) (fun c5 => ?_) (fun c5 => ?_)
          · replace h := h.1 c5
            refine gx_iconst X (v := -1) dX10_digitOf_69 (by decide) ?_
            exact gx_iret X hQ h dX10_digitOf_70
          · replace h := h.2 c5
            refine gx_bipush X (v := 63) dX10_digitOf_64 (by decide) ?_
            refine gx_goto X (tgt := 70) dX10_digitOf_66 (by decide) ?_
            exact gx_iret X hQ h dX10_digitOf_70
        · replace h := h.2 c6
          refine gx_bipush X (v := 62) dX10_digitOf_53 (by decide) ?_
          refine gx_goto X (tgt := 70) dX10_digitOf_55 (by decide) ?_
          exact gx_iret X hQ h dX10_digitOf_70
      · replace h := h.2 c7
        refine gx_iload_n X (j := 0) dX10_digitOf_39 rfl rfl ?_
        refine gx_bipush X (v := 48) dX10_digitOf_40 (by decide) ?_
        refine gx_isub X dX10_digitOf_42 ?_
        refine gx_bipush X (v := 52) dX10_digitOf_43 (by decide) ?_
        refine gx_iadd X dX10_digitOf_45 ?_
        exact gx_iret X hQ h dX10_digitOf_46
    · replace h := h.2 c8
      refine gx_iload_n X (j := 0) dX10_digitOf_24 rfl rfl ?_
      refine gx_bipush X (v := 97) dX10_digitOf_25 (by decide) ?_
      refine gx_isub X dX10_digitOf_27 ?_
      refine gx_bipush X (v := 26) dX10_digitOf_28 (by decide) ?_
      refine gx_iadd X dX10_digitOf_30 ?_
      exact gx_iret X hQ h dX10_digitOf_31
  · replace h := h.2 c18
    refine gx_iload_n X (j := 0) dX10_digitOf_6 rfl rfl ?_
    refine gx_bipush X (v := 90) dX10_digitOf_7 (by decide) ?_
    refine gx_icmp_gt X (tgt := 17) dX10_digitOf_9 (by decide) (fun c17 => ?_) (fun c17 => ?_)
    · replace h := h.1 c17
      refine gx_iload_n X (j := 0) dX10_digitOf_17 rfl rfl ?_
      refine gx_ki (gx_rS X (c_X10_isSmall h) (Nat.le_trans (by decide) hd) (Nat.le_trans (by decide) (Nat.mul_le_mul_left 40 hd)) mw_641 mw_642 mw_7 mw_643 hyX10_isSmall (As := [.int v0]) (rest := []) rfl rfl (Nat.le_of_ble_eq_true rfl) dX10_digitOf_18) (fun r10 u9 h => ?_)
      refine gx_if_eq X (tgt := 32) dX10_digitOf_21 (by decide) (fun c16 => ?_) (fun c16 => ?_)
      · replace h := h.1 c16
        refine gx_iload_n X (j := 0) dX10_digitOf_32 rfl rfl ?_
        refine gx_ki (gx_rS X (c_X10_isDigit h) (Nat.le_trans (by decide) hd) (Nat.le_trans (by decide) (Nat.mul_le_mul_left 40 hd)) mw_644 mw_645 mw_7 mw_646 hyX10_isDigit (As := [.int v0]) (rest := []) rfl rfl (Nat.le_of_ble_eq_true rfl) dX10_digitOf_33) (fun r12 u11 h => ?_)
        refine gx_if_eq X (tgt := 47) dX10_digitOf_36 (by decide) (fun c15 => ?_) (fun c15 => ?_)
        · replace h := h.1 c15
          refine gx_iload_n X (j := 0) dX10_digitOf_47 rfl rfl ?_
          refine gx_bipush X (v := 43) dX10_digitOf_48 (by decide) ?_
          refine gx_icmp_ne X (tgt := 58) dX10_digitOf_50 (by decide) (fun c14 => ?_) (fun c14 => ?_)
          · replace h := h.1 c14
            refine gx_iload_n X (j := 0) dX10_digitOf_58 rfl rfl ?_
            refine gx_bipush X (v := 47) dX10_digitOf_59 (by decide) ?_
            refine gx_icmp_ne X (tgt := 69) dX10_digitOf_61 (by decide) (fun c13 => ?_) (fun c13 => ?_)
            · replace h := h.1 c13
              refine gx_iconst X (v := -1) dX10_digitOf_69 (by decide) ?_
              exact gx_iret X hQ h dX10_digitOf_70
            · replace h := h.2 c13
              refine gx_bipush X (v := 63) dX10_digitOf_64 (by decide) ?_
              refine gx_goto X (tgt := 70) dX10_digitOf_66 (by decide) ?_
              exact gx_iret X hQ h dX10_digitOf_70
          · replace h := h.2 c14
            refine gx_bipush X (v := 62) dX10_digitOf_53 (by decide) ?_
            refine gx_goto X (tgt := 70) dX10_digitOf_55 (by decide) ?_
            exact gx_iret X hQ h dX10_digitOf_70
        · replace h := h.2 c15
          refine gx_iload_n X (j := 0) dX10_digitOf_39 rfl rfl ?_
          refine gx_bipush X (v := 48) dX10_digitOf_40 (by decide) ?_
          refine gx_isub X dX10_digitOf_42 ?_
          refine gx_bipush X (v := 52) dX10_digitOf_43 (by decide) ?_
          refine gx_iadd X dX10_digitOf_45 ?_
          exact gx_iret X hQ h dX10_digitOf_46
      · replace h := h.2 c16
        refine gx_iload_n X (j := 0) dX10_digitOf_24 rfl rfl ?_
        refine gx_bipush X (v := 97) dX10_digitOf_25 (by decide) ?_
        refine gx_isub X dX10_digitOf_27 ?_
        refine gx_bipush X (v := 26) dX10_digitOf_28 (by decide) ?_
        refine gx_iadd X dX10_digitOf_30 ?_
        exact gx_iret X hQ h dX10_digitOf_31
    · replace h := h.2 c17
      refine gx_iload_n X (j := 0) dX10_digitOf_12 rfl rfl ?_
      refine gx_bipush X (v := 65) dX10_digitOf_13 (by decide) ?_
      refine gx_isub X dX10_digitOf_15 ?_
      exact gx_iret X hQ h dX10_digitOf_16
theorem c_X10_digitOf {l : Launch} {Z : gx_Z} {u : gx_S} {v0 : Int32} {post : Int32 → gx_S → Prop} (h : S_X10_digitOf u v0 post) : Met l yX10_digitOf (Cond.code yX10_digitOf cX10_digitOf 1 (some .int) :: gx_TB) (gx_rm 1) (gx_Pre Z u [.int v0]) (va_Qi post (gx_B Z) (gx_A Z)) 0 0 (gx_A Z) := by
  refine gx_met (by decide +kernel) (Nat.le_of_ble_eq_true rfl) ?_
  intro E X hZ hQ hD hL
  subst hZ
  exact w_X10_digitOf X (Nat.le_of_eq hD.symm) hQ h
-- PlainSealModel.decode(I)I
theorem dX10_decode_0 : decode cX10_decode 0 = .ok (.iload_n 1, 1) := by decide +kernel
theorem dX10_decode_1 : decode cX10_decode 1 = .ok (.i2l, 1) := by decide +kernel
theorem dX10_decode_2 : decode cX10_decode 2 = .ok (.lconst 0, 1) := by decide +kernel
theorem dX10_decode_3 : decode cX10_decode 3 = .ok (.ldc2_w 200, 3) := by decide +kernel
theorem dX10_decode_6 : decode cX10_decode 6 = .ok (.invokestatic 102, 3) := by decide +kernel
theorem dX10_decode_9 : decode cX10_decode 9 = .ok (.ifCond .ne 5, 3) := by decide +kernel
theorem dX10_decode_12 : decode cX10_decode 12 = .ok (.iconst (-1), 1) := by decide +kernel
theorem dX10_decode_13 : decode cX10_decode 13 = .ok (.ireturn, 1) := by decide +kernel
theorem dX10_decode_14 : decode cX10_decode 14 = .ok (.aload_n 0, 1) := by decide +kernel
theorem dX10_decode_15 : decode cX10_decode 15 = .ok (.invokevirtual 112, 3) := by decide +kernel
theorem dX10_decode_18 : decode cX10_decode 18 = .ok (.istore_n 2, 1) := by decide +kernel
theorem dX10_decode_19 : decode cX10_decode 19 = .ok (.bipush 8, 2) := by decide +kernel
theorem dX10_decode_21 : decode cX10_decode 21 = .ok (.iload_n 1, 1) := by decide +kernel
theorem dX10_decode_22 : decode cX10_decode 22 = .ok (.imul, 1) := by decide +kernel
theorem dX10_decode_23 : decode cX10_decode 23 = .ok (.iconst 5, 1) := by decide +kernel
theorem dX10_decode_24 : decode cX10_decode 24 = .ok (.iadd, 1) := by decide +kernel
theorem dX10_decode_25 : decode cX10_decode 25 = .ok (.bipush 6, 2) := by decide +kernel
theorem dX10_decode_27 : decode cX10_decode 27 = .ok (.idiv, 1) := by decide +kernel
theorem dX10_decode_28 : decode cX10_decode 28 = .ok (.istore_n 3, 1) := by decide +kernel
theorem dX10_decode_29 : decode cX10_decode 29 = .ok (.iload_n 3, 1) := by decide +kernel
theorem dX10_decode_30 : decode cX10_decode 30 = .ok (.iconst 3, 1) := by decide +kernel
theorem dX10_decode_31 : decode cX10_decode 31 = .ok (.iadd, 1) := by decide +kernel
theorem dX10_decode_32 : decode cX10_decode 32 = .ok (.iconst 4, 1) := by decide +kernel
theorem dX10_decode_33 : decode cX10_decode 33 = .ok (.idiv, 1) := by decide +kernel
theorem dX10_decode_34 : decode cX10_decode 34 = .ok (.iconst 4, 1) := by decide +kernel
theorem dX10_decode_35 : decode cX10_decode 35 = .ok (.imul, 1) := by decide +kernel
theorem dX10_decode_36 : decode cX10_decode 36 = .ok (.istore 4, 2) := by decide +kernel
theorem dX10_decode_38 : decode cX10_decode 38 = .ok (.iconst 0, 1) := by decide +kernel
theorem dX10_decode_39 : decode cX10_decode 39 = .ok (.istore 5, 2) := by decide +kernel
theorem dX10_decode_41 : decode cX10_decode 41 = .ok (.iconst 0, 1) := by decide +kernel
theorem dX10_decode_42 : decode cX10_decode 42 = .ok (.istore 6, 2) := by decide +kernel
theorem dX10_decode_44 : decode cX10_decode 44 = .ok (.lconst 0, 1) := by decide +kernel
theorem dX10_decode_45 : decode cX10_decode 45 = .ok (.lstore 7, 2) := by decide +kernel
theorem dX10_decode_47 : decode cX10_decode 47 = .ok (.iload_n 2, 1) := by decide +kernel
theorem dX10_decode_48 : decode cX10_decode 48 = .ok (.iload 4, 2) := by decide +kernel
theorem dX10_decode_50 : decode cX10_decode 50 = .ok (.if_icmp .eq 6, 3) := by decide +kernel
theorem dX10_decode_53 : decode cX10_decode 53 = .ok (.bipush (-2), 2) := by decide +kernel
theorem dX10_decode_55 : decode cX10_decode 55 = .ok (.ireturn, 1) := by decide +kernel
theorem dX10_decode_56 : decode cX10_decode 56 = .ok (.iconst 0, 1) := by decide +kernel
theorem dX10_decode_57 : decode cX10_decode 57 = .ok (.istore 9, 2) := by decide +kernel
theorem dX10_decode_59 : decode cX10_decode 59 = .ok (.iload 9, 2) := by decide +kernel
theorem dX10_decode_61 : decode cX10_decode 61 = .ok (.iload_n 3, 1) := by decide +kernel
theorem dX10_decode_62 : decode cX10_decode 62 = .ok (.if_icmp .ge 85, 3) := by decide +kernel
theorem dX10_decode_65 : decode cX10_decode 65 = .ok (.aload_n 0, 1) := by decide +kernel
theorem dX10_decode_66 : decode cX10_decode 66 = .ok (.getfield 13, 3) := by decide +kernel
theorem dX10_decode_69 : decode cX10_decode 69 = .ok (.iload 9, 2) := by decide +kernel
theorem dX10_decode_71 : decode cX10_decode 71 = .ok (.baload, 1) := by decide +kernel
theorem dX10_decode_72 : decode cX10_decode 72 = .ok (.invokestatic 202, 3) := by decide +kernel
theorem dX10_decode_75 : decode cX10_decode 75 = .ok (.istore 10, 2) := by decide +kernel
theorem dX10_decode_77 : decode cX10_decode 77 = .ok (.iload 10, 2) := by decide +kernel
theorem dX10_decode_79 : decode cX10_decode 79 = .ok (.ifCond .ge 6, 3) := by decide +kernel
theorem dX10_decode_82 : decode cX10_decode 82 = .ok (.bipush (-2), 2) := by decide +kernel
theorem dX10_decode_84 : decode cX10_decode 84 = .ok (.ireturn, 1) := by decide +kernel
theorem dX10_decode_85 : decode cX10_decode 85 = .ok (.lload 7, 2) := by decide +kernel
theorem dX10_decode_87 : decode cX10_decode 87 = .ok (.bipush 6, 2) := by decide +kernel
theorem dX10_decode_89 : decode cX10_decode 89 = .ok (.lshl, 1) := by decide +kernel
theorem dX10_decode_90 : decode cX10_decode 90 = .ok (.iload 10, 2) := by decide +kernel
theorem dX10_decode_92 : decode cX10_decode 92 = .ok (.i2l, 1) := by decide +kernel
theorem dX10_decode_93 : decode cX10_decode 93 = .ok (.lor, 1) := by decide +kernel
theorem dX10_decode_94 : decode cX10_decode 94 = .ok (.lstore 7, 2) := by decide +kernel
theorem dX10_decode_96 : decode cX10_decode 96 = .ok (.iinc 5 6, 3) := by decide +kernel
theorem dX10_decode_99 : decode cX10_decode 99 = .ok (.iload 5, 2) := by decide +kernel
theorem dX10_decode_101 : decode cX10_decode 101 = .ok (.bipush 8, 2) := by decide +kernel
theorem dX10_decode_103 : decode cX10_decode 103 = .ok (.if_icmp .ge 6, 3) := by decide +kernel
theorem dX10_decode_106 : decode cX10_decode 106 = .ok (.goto 35, 3) := by decide +kernel
theorem dX10_decode_109 : decode cX10_decode 109 = .ok (.iinc 5 (-8), 3) := by decide +kernel
theorem dX10_decode_112 : decode cX10_decode 112 = .ok (.aload_n 0, 1) := by decide +kernel
theorem dX10_decode_113 : decode cX10_decode 113 = .ok (.getfield 61, 3) := by decide +kernel
theorem dX10_decode_116 : decode cX10_decode 116 = .ok (.iload 6, 2) := by decide +kernel
theorem dX10_decode_118 : decode cX10_decode 118 = .ok (.lload 7, 2) := by decide +kernel
theorem dX10_decode_120 : decode cX10_decode 120 = .ok (.iload 5, 2) := by decide +kernel
theorem dX10_decode_122 : decode cX10_decode 122 = .ok (.lshr, 1) := by decide +kernel
theorem dX10_decode_123 : decode cX10_decode 123 = .ok (.l2i, 1) := by decide +kernel
theorem dX10_decode_124 : decode cX10_decode 124 = .ok (.i2b, 1) := by decide +kernel
theorem dX10_decode_125 : decode cX10_decode 125 = .ok (.bastore, 1) := by decide +kernel
theorem dX10_decode_126 : decode cX10_decode 126 = .ok (.iinc 6 1, 3) := by decide +kernel
theorem dX10_decode_129 : decode cX10_decode 129 = .ok (.lload 7, 2) := by decide +kernel
theorem dX10_decode_131 : decode cX10_decode 131 = .ok (.iconst 1, 1) := by decide +kernel
theorem dX10_decode_132 : decode cX10_decode 132 = .ok (.iload 5, 2) := by decide +kernel
theorem dX10_decode_134 : decode cX10_decode 134 = .ok (.ishl, 1) := by decide +kernel
theorem dX10_decode_135 : decode cX10_decode 135 = .ok (.iconst 1, 1) := by decide +kernel
theorem dX10_decode_136 : decode cX10_decode 136 = .ok (.isub, 1) := by decide +kernel
theorem dX10_decode_137 : decode cX10_decode 137 = .ok (.i2l, 1) := by decide +kernel
theorem dX10_decode_138 : decode cX10_decode 138 = .ok (.land, 1) := by decide +kernel
theorem dX10_decode_139 : decode cX10_decode 139 = .ok (.lstore 7, 2) := by decide +kernel
theorem dX10_decode_141 : decode cX10_decode 141 = .ok (.iinc 9 1, 3) := by decide +kernel
theorem dX10_decode_144 : decode cX10_decode 144 = .ok (.goto (-85), 3) := by decide +kernel
theorem dX10_decode_147 : decode cX10_decode 147 = .ok (.iload_n 3, 1) := by decide +kernel
theorem dX10_decode_148 : decode cX10_decode 148 = .ok (.istore 9, 2) := by decide +kernel
theorem dX10_decode_150 : decode cX10_decode 150 = .ok (.iload 9, 2) := by decide +kernel
theorem dX10_decode_152 : decode cX10_decode 152 = .ok (.iload 4, 2) := by decide +kernel
theorem dX10_decode_154 : decode cX10_decode 154 = .ok (.if_icmp .ge 24, 3) := by decide +kernel
theorem dX10_decode_157 : decode cX10_decode 157 = .ok (.aload_n 0, 1) := by decide +kernel
theorem dX10_decode_158 : decode cX10_decode 158 = .ok (.getfield 13, 3) := by decide +kernel
theorem dX10_decode_161 : decode cX10_decode 161 = .ok (.iload 9, 2) := by decide +kernel
theorem dX10_decode_163 : decode cX10_decode 163 = .ok (.baload, 1) := by decide +kernel
theorem dX10_decode_164 : decode cX10_decode 164 = .ok (.bipush 61, 2) := by decide +kernel
theorem dX10_decode_166 : decode cX10_decode 166 = .ok (.if_icmp .eq 6, 3) := by decide +kernel
theorem dX10_decode_169 : decode cX10_decode 169 = .ok (.bipush (-2), 2) := by decide +kernel
theorem dX10_decode_171 : decode cX10_decode 171 = .ok (.ireturn, 1) := by decide +kernel
theorem dX10_decode_172 : decode cX10_decode 172 = .ok (.iinc 9 1, 3) := by decide +kernel
theorem dX10_decode_175 : decode cX10_decode 175 = .ok (.goto (-25), 3) := by decide +kernel
theorem dX10_decode_178 : decode cX10_decode 178 = .ok (.lload 7, 2) := by decide +kernel
theorem dX10_decode_180 : decode cX10_decode 180 = .ok (.lconst 0, 1) := by decide +kernel
theorem dX10_decode_181 : decode cX10_decode 181 = .ok (.lcmp, 1) := by decide +kernel
theorem dX10_decode_182 : decode cX10_decode 182 = .ok (.ifCond .eq 6, 3) := by decide +kernel
theorem dX10_decode_185 : decode cX10_decode 185 = .ok (.bipush (-2), 2) := by decide +kernel
theorem dX10_decode_187 : decode cX10_decode 187 = .ok (.ireturn, 1) := by decide +kernel
theorem dX10_decode_188 : decode cX10_decode 188 = .ok (.aload_n 0, 1) := by decide +kernel
theorem dX10_decode_189 : decode cX10_decode 189 = .ok (.getfield 61, 3) := by decide +kernel
theorem dX10_decode_192 : decode cX10_decode 192 = .ok (.iconst 0, 1) := by decide +kernel
theorem dX10_decode_193 : decode cX10_decode 193 = .ok (.aload_n 0, 1) := by decide +kernel
theorem dX10_decode_194 : decode cX10_decode 194 = .ok (.getfield 17, 3) := by decide +kernel
theorem dX10_decode_197 : decode cX10_decode 197 = .ok (.iconst 0, 1) := by decide +kernel
theorem dX10_decode_198 : decode cX10_decode 198 = .ok (.iload_n 1, 1) := by decide +kernel
theorem dX10_decode_199 : decode cX10_decode 199 = .ok (.invokestatic 134, 3) := by decide +kernel
theorem dX10_decode_202 : decode cX10_decode 202 = .ok (.aload_n 0, 1) := by decide +kernel
theorem dX10_decode_203 : decode cX10_decode 203 = .ok (.iload_n 1, 1) := by decide +kernel
theorem dX10_decode_204 : decode cX10_decode 204 = .ok (.putfield 166, 3) := by decide +kernel
theorem dX10_decode_207 : decode cX10_decode 207 = .ok (.iload_n 1, 1) := by decide +kernel
theorem dX10_decode_208 : decode cX10_decode 208 = .ok (.ireturn, 1) := by decide +kernel
theorem hyX10_decode : yX10_decode.cls ≠ "java/lang/invoke/MethodHandle" ∧ yX10_decode.cls ≠ "java/lang/invoke/VarHandle" ∧ (parseMethodDescriptor yX10_decode.desc).map (fun d => d.parameters.length) = some 1 := by decide +kernel
abbrev J_X10_decode_59 (E : gx_E) (v0 : Nat) (v1 : Int32) (v2 : Int32) (v3 : Int32) (v4 : Int32) (v5 : Int32) (v6 : Int32) (v7 : Int64) (v9 : Int32) (u : gx_S) : Prop := gx_Wc E 11 59 [(0, .ref (ex_ad E v0)), (1, .int v1), (2, .int v2), (3, .int v3), (4, .int v4), (5, .int v5), (6, .int v6), (7, .long v7), (9, .int v9)] [] u
abbrev J_X10_decode_150 (E : gx_E) (v0 : Nat) (v1 : Int32) (v2 : Int32) (v3 : Int32) (v4 : Int32) (v5 : Int32) (v6 : Int32) (v7 : Int64) (v9 : Int32) (u : gx_S) : Prop := gx_Wc E 11 150 [(0, .ref (ex_ad E v0)), (1, .int v1), (2, .int v2), (3, .int v3), (4, .int v4), (5, .int v5), (6, .int v6), (7, .long v7), (9, .int v9)] [] u
set_option maxHeartbeats 4000000 in
set_option maxRecDepth 100000 in
theorem w_X10_decode_0 {E : gx_E} (X : gx_X E cX10_decode 11 RX10 (some .int)) (hd : 2 ≤ ex_d E) {post : Int32 → gx_S → Prop} (hQ : ex_Q E = va_Qi post (gx_B (ex_Z E)) (gx_A (ex_Z E))) {u : gx_S} {v0 : Nat} {v1 : Int32} (h : (S_X10_in u (v1).toInt64 (0 : Int64) (900 : Int64) (fun (r2 : Int32) (u1 : gx_S) => ((¬ r2 = 0 → (gx_isO v0 9 ∧ S_X10_used u1 v0 (fun (r5 : Int32) (u4 : gx_S) => (∀ x6 : Int32, x6 = ((((8 : Int32) * v1) + (5 : Int32)) / (6 : Int32)) → (∀ x7 : Int32, x7 = (((x6 + (3 : Int32)) / (4 : Int32)) * (4 : Int32)) → ((r5 = x7 → J_X10_decode_59 E v0 v1 r5 x6 x7 (0 : Int32) (0 : Int32) (0 : Int64) (0 : Int32) u4) ∧ (¬ r5 = x7 → post (-2 : Int32) u4))))))) ∧ (r2 = 0 → post (-1 : Int32) u1))))) : gx_Wc E 11 0 [(0, .ref (ex_ad E v0)), (1, .int v1)] [] u := by
  refine gx_iload_n X (j := 1) dX10_decode_0 rfl rfl ?_
  refine gx_i2l X (v := (v1).toInt64) dX10_decode_1 rfl ?_
  refine gx_lconst X (v := 0) dX10_decode_2 (by decide) ?_
  refine gx_ldc2 X (v := 900) mw_710 dX10_decode_3 ?_
  refine gx_ki (gx_rS X (c_X10_in h) (Nat.le_trans (by decide) hd) (Nat.le_trans (by decide) (Nat.mul_le_mul_left 40 hd)) mw_618 mw_619 mw_7 mw_620 hyX10_in (As := [.long (v1).toInt64, .long (0 : Int64), .long (900 : Int64)]) (rest := []) rfl rfl (Nat.le_of_ble_eq_true rfl) dX10_decode_6) (fun r2 u1 h => ?_)
  refine gx_if_ne X (tgt := 14) dX10_decode_9 (by decide) (fun c9 => ?_) (fun c9 => ?_)
  · replace h := h.1 c9
    refine gx_aload_n X (j := 0) dX10_decode_14 rfl rfl ?_
    obtain ⟨k3, h⟩ := h
    refine gx_ki (gx_rV X (c_X10_used h) (Nat.le_trans (by decide) hd) (Nat.le_trans (by decide) (Nat.mul_le_mul_left 40 hd)) k3 rfl mw_625 mw_627 mp_12 mw_7 mw_628 hyX10_used (As := []) (rest := []) rfl rfl (Nat.le_of_ble_eq_true rfl) dX10_decode_15) (fun r5 u4 h => ?_)
    refine gx_istore_n X (lv' := [(2, .int r5), (0, .ref (ex_ad E v0)), (1, .int v1)]) dX10_decode_18 rfl (by decide) rfl ?_
    refine gx_bipush X (v := 8) dX10_decode_19 (by decide) ?_
    refine gx_iload_n X (j := 2) dX10_decode_21 rfl rfl ?_
    refine gx_imul X dX10_decode_22 ?_
    refine gx_iconst X (v := 5) dX10_decode_23 (by decide) ?_
    refine gx_iadd X dX10_decode_24 ?_
    refine gx_bipush X (v := 6) dX10_decode_25 (by decide) ?_
    refine gx_idiv X dX10_decode_27 (by decide) ?_
    refine gx_nami (fun x6 ex6 => ?_)
    replace h := h x6 ex6
    refine gx_istore_n X (lv' := [(3, .int x6), (2, .int r5), (0, .ref (ex_ad E v0)), (1, .int v1)]) dX10_decode_28 rfl (by decide) rfl ?_
    refine gx_iload_n X (j := 0) dX10_decode_29 rfl rfl ?_
    refine gx_iconst X (v := 3) dX10_decode_30 (by decide) ?_
    refine gx_iadd X dX10_decode_31 ?_
    refine gx_iconst X (v := 4) dX10_decode_32 (by decide) ?_
    refine gx_idiv X dX10_decode_33 (by decide) ?_
    refine gx_iconst X (v := 4) dX10_decode_34 (by decide) ?_
    refine gx_imul X dX10_decode_35 ?_
    refine gx_nami (fun x7 ex7 => ?_)
    replace h := h x7 ex7
    refine gx_istore X (lv' := [(4, .int x7), (3, .int x6), (2, .int r5), (0, .ref (ex_ad E v0)), (1, .int v1)]) dX10_decode_36 (by decide) rfl ?_
    refine gx_iconst X (v := 0) dX10_decode_38 (by decide) ?_
    refine gx_istore X (lv' := [(5, .int (0 : Int32)), (4, .int x7), (3, .int x6), (2, .int r5), (0, .ref (ex_ad E v0)), (1, .int v1)]) dX10_decode_39 (by decide) rfl ?_
    refine gx_iconst X (v := 0) dX10_decode_41 (by decide) ?_
    refine gx_istore X (lv' := [(6, .int (0 : Int32)), (5, .int (0 : Int32)), (4, .int x7), (3, .int x6), (2, .int r5), (0, .ref (ex_ad E v0)), (1, .int v1)]) dX10_decode_42 (by decide) rfl ?_
    refine gx_lconst X (v := 0) dX10_decode_44 (by decide) ?_
    refine gx_lstore X (lv' := [(7, .long (0 : Int64)), (6, .int (0 : Int32)), (5, .int (0 : Int32)), (4, .int x7), (3, .int x6), (2, .int r5), (0, .ref (ex_ad E v0)), (1, .int v1)]) dX10_decode_45 (by decide) rfl ?_
    refine gx_iload_n X (j := 5) dX10_decode_47 rfl rfl ?_
    refine gx_iload X (j := 3) dX10_decode_48 rfl ?_
    refine gx_icmp_eq X (tgt := 56) dX10_decode_50 (by decide) (fun c8 => ?_) (fun c8 => ?_)
    · replace h := h.1 c8
      refine gx_iconst X (v := 0) dX10_decode_56 (by decide) ?_
      refine gx_istore X (lv' := [(9, .int (0 : Int32)), (7, .long (0 : Int64)), (6, .int (0 : Int32)), (5, .int (0 : Int32)), (4, .int x7), (3, .int x6), (2, .int r5), (0, .ref (ex_ad E v0)), (1, .int v1)]) dX10_decode_57 (by decide) rfl ?_
      exact gx_sub [7, 8, 6, 5, 4, 3, 2, 1, 0] rfl h
    · replace h := h.2 c8
      refine gx_bipush X (v := -2) dX10_decode_53 (by decide) ?_
      exact gx_iret X hQ h dX10_decode_55
  · replace h := h.2 c9
    refine gx_iconst X (v := -1) dX10_decode_12 (by decide) ?_
    exact gx_iret X hQ h dX10_decode_13
set_option maxHeartbeats 4000000 in
set_option maxRecDepth 100000 in
theorem w_X10_decode_59 {E : gx_E} (X : gx_X E cX10_decode 11 RX10 (some .int)) (hd : 2 ≤ ex_d E) {post : Int32 → gx_S → Prop} (hQ : ex_Q E = va_Qi post (gx_B (ex_Z E)) (gx_A (ex_Z E))) {u : gx_S} {v0 : Nat} {v1 : Int32} {v2 : Int32} {v3 : Int32} {v4 : Int32} {v5 : Int32} {v6 : Int32} {v7 : Int64} {v9 : Int32} (h : ((v3 ≤ v9 → J_X10_decode_150 E v0 v1 v2 v3 v4 v5 v6 v7 v3 u) ∧ (¬ v3 ≤ v9 → (gx_isO v0 9 ∧ (gx_isR (gx_r u v0 0) .byte ∧ vp_in v9 (gx_len (gx_r u v0 0)) ∧ (S_X10_digitOf u (gx_a u (gx_r u v0 0) v9.toNatClampNeg) (fun (r5 : Int32) (u4 : gx_S) => ((0 ≤ r5 → (∀ x6 : Int64, x6 = ((v7 <<< ((6 : Int32).toInt64 &&& 63)) ||| (r5).toInt64) → (∀ x7 : Int32, x7 = v5 + 6 → (((8 : Int32) ≤ x7 → (∀ x8 : Int32, x8 = x7 + (-8) → (gx_isA (gx_r u4 v0 18) .byte ∧ vp_in v6 (gx_len (gx_r u4 v0 18)) ∧ ∀ u11 : gx_S, u11 = gx_pa u4 (gx_r u4 v0 18) (upd (gx_a u4 (gx_r u4 v0 18)) v6.toNatClampNeg ((((x6 >>> (x8.toInt64 &&& 63))).toInt32).toInt8.toInt32).toInt8.toInt32) → (∀ x12 : Int32, x12 = v6 + 1 → (∀ x13 : Int64, x13 = (x6 &&& ((((1 : Int32) <<< (x8 &&& 31)) - (1 : Int32))).toInt64) → (∀ x14 : Int32, x14 = v9 + 1 → J_X10_decode_59 E v0 v1 v2 v3 v4 x8 x12 x13 x14 u11)))))) ∧ (¬ (8 : Int32) ≤ x7 → (∀ x15 : Int32, x15 = v9 + 1 → J_X10_decode_59 E v0 v1 v2 v3 v4 x7 v6 x6 x15 u4)))))) ∧ (¬ 0 ≤ r5 → post (-2 : Int32) u4))))))))) : gx_Wc E 11 59 [(0, .ref (ex_ad E v0)), (1, .int v1), (2, .int v2), (3, .int v3), (4, .int v4), (5, .int v5), (6, .int v6), (7, .long v7), (9, .int v9)] [] u := by
  refine gx_iload X (j := 8) dX10_decode_59 rfl ?_
  refine gx_iload_n X (j := 3) dX10_decode_61 rfl rfl ?_
  refine gx_icmp_ge X (tgt := 147) dX10_decode_62 (by decide) (fun c18 => ?_) (fun c18 => ?_)
  · replace h := h.1 c18
    refine gx_iload_n X (j := 3) dX10_decode_147 rfl rfl ?_
    refine gx_istore X (lv' := [(9, .int v3), (0, .ref (ex_ad E v0)), (1, .int v1), (2, .int v2), (3, .int v3), (4, .int v4), (5, .int v5), (6, .int v6), (7, .long v7)]) dX10_decode_148 (by decide) rfl ?_
    exact gx_sub [1, 2, 3, 4, 5, 6, 7, 8, 0] rfl h
  · replace h := h.2 c18
    refine gx_aload_n X (j := 0) dX10_decode_65 rfl rfl ?_
    obtain ⟨k1, h⟩ := h
    refine gx_get X k1 rfl iwX10 0 (by decide) mw_521 (v := .ref (ex_ad E (gx_r u v0 0))) rfl dX10_decode_66 ?_
    refine gx_iload X (j := 8) dX10_decode_69 rfl ?_
    obtain ⟨k2, h⟩ := h
    obtain ⟨k3, h⟩ := h
    refine gx_bald X k2 k3 dX10_decode_71 ?_
    refine gx_ki (gx_rS X (c_X10_digitOf h) (Nat.le_trans (by decide) hd) (Nat.le_trans (by decide) (Nat.mul_le_mul_left 40 hd)) mw_711 mw_712 mw_7 mw_713 hyX10_digitOf (As := [.int (gx_a u (gx_r u v0 0) v9.toNatClampNeg)]) (rest := []) rfl rfl (Nat.le_of_ble_eq_true rfl) dX10_decode_72) (fun r5 u4 h => ?_)
    refine gx_istore X (lv' := [(10, .int r5), (0, .ref (ex_ad E v0)), (1, .int v1), (2, .int v2), (3, .int v3), (4, .int v4), (5, .int v5), (6, .int v6), (7, .long v7), (9, .int v9)]) dX10_decode_75 (by decide) rfl ?_
    refine gx_iload X (j := 0) dX10_decode_77 rfl ?_
    refine gx_if_ge X (tgt := 85) dX10_decode_79 (by decide) (fun c17 => ?_) (fun c17 => ?_)
    · replace h := h.1 c17
      refine gx_lload X (j := 8) dX10_decode_85 rfl ?_
      refine gx_bipush X (v := 6) dX10_decode_87 (by decide) ?_
      refine gx_lshl X (v := (v7 <<< ((6 : Int32).toInt64 &&& 63))) dX10_decode_89 rfl ?_
      refine gx_iload X (j := 0) dX10_decode_90 rfl ?_
      refine gx_i2l X (v := (r5).toInt64) dX10_decode_92 rfl ?_
      refine gx_lor X dX10_decode_93 ?_
      refine gx_naml (fun x6 ex6 => ?_)
      replace h := h x6 ex6
      refine gx_lstore X (lv' := [(7, .long x6), (10, .int r5), (0, .ref (ex_ad E v0)), (1, .int v1), (2, .int v2), (3, .int v3), (4, .int v4), (5, .int v5), (6, .int v6), (9, .int v9)]) dX10_decode_94 (by decide) rfl ?_
      obtain ⟨x7, ex7⟩ : ∃ y : Int32, y = v5 + 6 := ⟨_, rfl⟩
      replace h := h x7 ex7
      refine gx_iinc X (v := x7) (lv' := [(5, .int x7), (7, .long x6), (10, .int r5), (0, .ref (ex_ad E v0)), (1, .int v1), (2, .int v2), (3, .int v3), (4, .int v4), (6, .int v6), (9, .int v9)]) dX10_decode_96 (j := 7) rfl (by rw [ex7]; rfl) (by decide) rfl ?_
      refine gx_iload X (j := 0) dX10_decode_99 rfl ?_
      refine gx_bipush X (v := 8) dX10_decode_101 (by decide) ?_
      refine gx_icmp_ge X (tgt := 109) dX10_decode_103 (by decide) (fun c16 => ?_) (fun c16 => ?_)
      · replace h := h.1 c16
        obtain ⟨x8, ex8⟩ : ∃ y : Int32, y = x7 + (-8) := ⟨_, rfl⟩
        replace h := h x8 ex8
        refine gx_iinc X (v := x8) (lv' := [(5, .int x8), (7, .long x6), (10, .int r5), (0, .ref (ex_ad E v0)), (1, .int v1), (2, .int v2), (3, .int v3), (4, .int v4), (6, .int v6), (9, .int v9)]) dX10_decode_109 (j := 0) rfl (by rw [ex8]; rfl) (by decide) rfl ?_
        refine gx_aload_n X (j := 3) dX10_decode_112 rfl rfl ?_
        refine gx_get X k1 rfl iwX10 18 (by decide) mw_539 (v := .ref (ex_ad E (gx_r u4 v0 18))) rfl dX10_decode_113 ?_
        refine gx_iload X (j := 8) dX10_decode_116 rfl ?_
        refine gx_lload X (j := 1) dX10_decode_118 rfl ?_
        refine gx_iload X (j := 0) dX10_decode_120 rfl ?_
        refine gx_lshr X (v := (x6 >>> (x8.toInt64 &&& 63))) dX10_decode_122 rfl ?_
        refine gx_l2i X (v := ((x6 >>> (x8.toInt64 &&& 63))).toInt32) dX10_decode_123 rfl ?_
        refine gx_i2b X (v := (((x6 >>> (x8.toInt64 &&& 63))).toInt32).toInt8.toInt32) dX10_decode_124 rfl ?_
        obtain ⟨k9, h⟩ := h
        obtain ⟨k10, h⟩ := h
        refine gx_bast X k9 k10 dX10_decode_125 ?_
        refine gx_nams (fun u11 eu11 => ?_)
        replace h := h u11 eu11
        obtain ⟨x12, ex12⟩ : ∃ y : Int32, y = v6 + 1 := ⟨_, rfl⟩
        replace h := h x12 ex12
        refine gx_iinc X (v := x12) (lv' := [(6, .int x12), (5, .int x8), (7, .long x6), (10, .int r5), (0, .ref (ex_ad E v0)), (1, .int v1), (2, .int v2), (3, .int v3), (4, .int v4), (9, .int v9)]) dX10_decode_126 (j := 8) rfl (by rw [ex12]; rfl) (by decide) rfl ?_
        refine gx_lload X (j := 2) dX10_decode_129 rfl ?_
        refine gx_iconst X (v := 1) dX10_decode_131 (by decide) ?_
        refine gx_iload X (j := 1) dX10_decode_132 rfl ?_
        refine gx_ishl X dX10_decode_134 ?_
        refine gx_iconst X (v := 1) dX10_decode_135 (by decide) ?_
        refine gx_isub X dX10_decode_136 ?_
        refine gx_i2l X (v := ((((1 : Int32) <<< (x8 &&& 31)) - (1 : Int32))).toInt64) dX10_decode_137 rfl ?_
        refine gx_land X dX10_decode_138 ?_
        refine gx_naml (fun x13 ex13 => ?_)
        replace h := h x13 ex13
        refine gx_lstore X (lv' := [(7, .long x13), (6, .int x12), (5, .int x8), (10, .int r5), (0, .ref (ex_ad E v0)), (1, .int v1), (2, .int v2), (3, .int v3), (4, .int v4), (9, .int v9)]) dX10_decode_139 (by decide) rfl ?_
        obtain ⟨x14, ex14⟩ : ∃ y : Int32, y = v9 + 1 := ⟨_, rfl⟩
        replace h := h x14 ex14
        refine gx_iinc X (v := x14) (lv' := [(9, .int x14), (7, .long x13), (6, .int x12), (5, .int x8), (10, .int r5), (0, .ref (ex_ad E v0)), (1, .int v1), (2, .int v2), (3, .int v3), (4, .int v4)]) dX10_decode_141 (j := 9) rfl (by rw [ex14]; rfl) (by decide) rfl ?_
        refine gx_goto X (tgt := 59) dX10_decode_144 (by decide) ?_
        exact gx_sub [5, 6, 7, 8, 9, 3, 2, 1, 0] rfl h
      · replace h := h.2 c16
        refine gx_goto X (tgt := 141) dX10_decode_106 (by decide) ?_
        obtain ⟨x15, ex15⟩ : ∃ y : Int32, y = v9 + 1 := ⟨_, rfl⟩
        replace h := h x15 ex15
        refine gx_iinc X (v := x15) (lv' := [(9, .int x15), (5, .int x7), (7, .long x6), (10, .int r5), (0, .ref (ex_ad E v0)), (1, .int v1), (2, .int v2), (3, .int v3), (4, .int v4), (6, .int v6)]) dX10_decode_141 (j := 9) rfl (by rw [ex15]; rfl) (by decide) rfl ?_
        refine gx_goto X (tgt := 59) dX10_decode_144 (by decide) ?_
        exact gx_sub [4, 5, 6, 7, 8, 1, 9, 2, 0] rfl h
    · replace h := h.2 c17
      refine gx_bipush X (v := -2) dX10_decode_82 (by decide) ?_
      exact gx_iret X hQ h dX10_decode_84
set_option maxHeartbeats 4000000 in
set_option maxRecDepth 100000 in
theorem w_X10_decode_150 {E : gx_E} (X : gx_X E cX10_decode 11 RX10 (some .int)) (hd : 2 ≤ ex_d E) {post : Int32 → gx_S → Prop} (hQ : ex_Q E = va_Qi post (gx_B (ex_Z E)) (gx_A (ex_Z E))) {u : gx_S} {v0 : Nat} {v1 : Int32} {v2 : Int32} {v3 : Int32} {v4 : Int32} {v5 : Int32} {v6 : Int32} {v7 : Int64} {v9 : Int32} (h : ((v4 ≤ v9 → (((lg_cmp v7 (0 : Int64)) = 0 → (gx_isO v0 9 ∧ (gx_isR (gx_r u v0 18) .byte ∧ gx_isA (gx_r u v0 3) .byte ∧ ¬ (0 : Int32) < 0 ∧ ¬ (0 : Int32) < 0 ∧ ¬ v1 < 0 ∧ (0 : Int32).toNatClampNeg + v1.toNatClampNeg ≤ gx_len (gx_r u v0 18) ∧ (0 : Int32).toNatClampNeg + v1.toNatClampNeg ≤ gx_len (gx_r u v0 3) ∧ ∀ u9 : gx_S, u9 = gx_pa u (gx_r u v0 3) (va_cpy (gx_a u (gx_r u v0 18)) (gx_a u (gx_r u v0 3)) (0 : Int32).toNatClampNeg (0 : Int32).toNatClampNeg v1.toNatClampNeg) → (∀ u10 : gx_S, u10 = gx_pi u9 v0 2 v1 → post v1 u10)))) ∧ (¬ (lg_cmp v7 (0 : Int64)) = 0 → post (-2 : Int32) u))) ∧ (¬ v4 ≤ v9 → (gx_isO v0 9 ∧ (gx_isR (gx_r u v0 0) .byte ∧ vp_in v9 (gx_len (gx_r u v0 0)) ∧ (((gx_a u (gx_r u v0 0) v9.toNatClampNeg) = (61 : Int32) → (∀ x15 : Int32, x15 = v9 + 1 → J_X10_decode_150 E v0 v1 v2 v3 v4 v5 v6 v7 x15 u)) ∧ (¬ (gx_a u (gx_r u v0 0) v9.toNatClampNeg) = (61 : Int32) → post (-2 : Int32) u))))))) : gx_Wc E 11 150 [(0, .ref (ex_ad E v0)), (1, .int v1), (2, .int v2), (3, .int v3), (4, .int v4), (5, .int v5), (6, .int v6), (7, .long v7), (9, .int v9)] [] u := by
  refine gx_iload X (j := 8) dX10_decode_150 rfl ?_
  refine gx_iload X (j := 4) dX10_decode_152 rfl ?_
  refine gx_icmp_ge X (tgt := 178) dX10_decode_154 (by decide) (fun c17 => ?_) (fun c17 => ?_)
  · replace h := h.1 c17
    refine gx_lload X (j := 7) dX10_decode_178 rfl ?_
    refine gx_lconst X (v := 0) dX10_decode_180 (by decide) ?_
    refine gx_lcmp X dX10_decode_181 ?_
    refine gx_if_eq X (tgt := 188) dX10_decode_182 (by decide) (fun c11 => ?_) (fun c11 => ?_)
    · replace h := h.1 c11
      refine gx_aload_n X (j := 0) dX10_decode_188 rfl rfl ?_
      obtain ⟨k1, h⟩ := h
      refine gx_get X k1 rfl iwX10 18 (by decide) mw_539 (v := .ref (ex_ad E (gx_r u v0 18))) rfl dX10_decode_189 ?_
      refine gx_iconst X (v := 0) dX10_decode_192 (by decide) ?_
      refine gx_aload_n X (j := 0) dX10_decode_193 rfl rfl ?_
      refine gx_get X k1 rfl iwX10 3 (by decide) mw_524 (v := .ref (ex_ad E (gx_r u v0 3))) rfl dX10_decode_194 ?_
      refine gx_iconst X (v := 0) dX10_decode_197 (by decide) ?_
      refine gx_iload_n X (j := 1) dX10_decode_198 rfl rfl ?_
      obtain ⟨k2, h⟩ := h
      obtain ⟨k3, h⟩ := h
      obtain ⟨k4, k5, k6, k7, k8, h⟩ := h
      refine gx_copy X (Nat.le_trans (by decide) hd) k2 k3 rfl k4 k5 k6 k7 k8 mw_648 mw_339 mw_338 mw_12 (Nat.le_of_ble_eq_true rfl) dX10_decode_199 ?_
      refine gx_nams (fun u9 eu9 => ?_)
      replace h := h u9 eu9
      refine gx_aload_n X (j := 0) dX10_decode_202 rfl rfl ?_
      refine gx_iload_n X (j := 1) dX10_decode_203 rfl rfl ?_
      refine gx_put X k1 rfl iwX10 tyX10_ok nmX10 2 (by decide) mw_523 rfl rfl rfl (fun _ => rfl) dX10_decode_204 ?_
      refine gx_nams (fun u10 eu10 => ?_)
      replace h := h u10 eu10
      refine gx_iload_n X (j := 1) dX10_decode_207 rfl rfl ?_
      exact gx_iret X hQ h dX10_decode_208
    · replace h := h.2 c11
      refine gx_bipush X (v := -2) dX10_decode_185 (by decide) ?_
      exact gx_iret X hQ h dX10_decode_187
  · replace h := h.2 c17
    refine gx_aload_n X (j := 0) dX10_decode_157 rfl rfl ?_
    obtain ⟨k12, h⟩ := h
    refine gx_get X k12 rfl iwX10 0 (by decide) mw_521 (v := .ref (ex_ad E (gx_r u v0 0))) rfl dX10_decode_158 ?_
    refine gx_iload X (j := 8) dX10_decode_161 rfl ?_
    obtain ⟨k13, h⟩ := h
    obtain ⟨k14, h⟩ := h
    refine gx_bald X k13 k14 dX10_decode_163 ?_
    refine gx_bipush X (v := 61) dX10_decode_164 (by decide) ?_
    refine gx_icmp_eq X (tgt := 172) dX10_decode_166 (by decide) (fun c16 => ?_) (fun c16 => ?_)
    · replace h := h.1 c16
      obtain ⟨x15, ex15⟩ : ∃ y : Int32, y = v9 + 1 := ⟨_, rfl⟩
      replace h := h x15 ex15
      refine gx_iinc X (v := x15) (lv' := [(9, .int x15), (0, .ref (ex_ad E v0)), (1, .int v1), (2, .int v2), (3, .int v3), (4, .int v4), (5, .int v5), (6, .int v6), (7, .long v7)]) dX10_decode_172 (j := 8) rfl (by rw [ex15]; rfl) (by decide) rfl ?_
      refine gx_goto X (tgt := 150) dX10_decode_175 (by decide) ?_
      exact gx_sub [1, 2, 3, 4, 5, 6, 7, 8, 0] rfl h
    · replace h := h.2 c16
      refine gx_bipush X (v := -2) dX10_decode_169 (by decide) ?_
      exact gx_iret X hQ h dX10_decode_171
-- digits
def dgo (c : Nat) : Int32 := if six c = 999 then -1 else nI (six c)
theorem i_X10_digitOf {u : gx_S} {c : Nat} {post : Int32 → gx_S → Prop} (hc : c < 256) (h : post (dgo c) u) : S_X10_digitOf u (sb_b c) post := by
  have sh : ∀ a b, a ≤ c → c < 128 → sb_b c - nI a + nI b = nI (c - a + b) := by
    intro a b h1 h2
    rw [sb_lo c h2, pk_sub h1, nI_add]
  have tl : ¬ (65 ≤ c ∧ c ≤ 90) → S_X10_isSmall u (sb_b c) (fun (r2 : Int32) (u1 : gx_S) => ((r2 = 0 → (S_X10_isDigit u1 (sb_b c) (fun (r4 : Int32) (u3 : gx_S) => ((r4 = 0 → ((¬ (sb_b c) = (43 : Int32) → ((¬ (sb_b c) = (47 : Int32) → post (-1 : Int32) u3) ∧ ((sb_b c) = (47 : Int32) → post (63 : Int32) u3))) ∧ ((sb_b c) = (43 : Int32) → post (62 : Int32) u3))) ∧ (¬ r4 = 0 → post (((sb_b c) - (48 : Int32)) + (52 : Int32)) u3))))) ∧ (¬ r2 = 0 → post (((sb_b c) - (97 : Int32)) + (26 : Int32)) u1))) := fun q => by
    have hg : isG c = false := by unfold isG; simp; omega
    unfold dgo six at h
    rw [hg] at h
    rw [show (43 : Int32) = nI 43 from rfl, show (47 : Int32) = nI 47 from rfl, sb_eq hc (by omega), sb_eq hc (by omega)]
    refine i_X10_isSmall hc ⟨fun q2 => i_X10_isDigit hc ⟨fun q3 => ⟨fun q4 => ⟨fun q5 => ?_, fun q5 => ?_⟩, fun q4 => ?_⟩, fun q3 => ?_⟩, fun q2 => ?_⟩
    · rw [b2_0] at q2 q3
      simp only [q2, q3, q4, q5, Bool.false_eq_true, if_false, if_true] at h
      exact h
    · rw [b2_0] at q2 q3
      simp only [q2, q3, q4, q5, Bool.false_eq_true, if_false, if_true] at h
      exact h
    · rw [b2_0] at q2 q3
      simp only [q2, q3, q4, Bool.false_eq_true, if_false, if_true] at h
      exact h
    · rw [b2_0] at q2
      have q3 := b2_n0 q3
      have hr : 48 ≤ c ∧ c ≤ 57 := by simpa [isD] using q3
      simp only [q2, q3, Bool.false_eq_true, if_false, if_true] at h
      rw [if_neg (by omega)] at h
      rw [show (48 : Int32) = nI 48 from rfl, show (52 : Int32) = nI 52 from rfl, sh 48 52 hr.1 (by omega)]
      exact h
    · have q2 := b2_n0 q2
      have hr : 97 ≤ c ∧ c ≤ 122 := by simpa [isS] using q2
      simp only [q2, Bool.false_eq_true, if_false, if_true] at h
      rw [if_neg (by omega)] at h
      rw [show (97 : Int32) = nI 97 from rfl, show (26 : Int32) = nI 26 from rfl, sh 97 26 hr.1 (by omega)]
      exact h
  unfold S_X10_digitOf
  rw [sb_65 c hc, sb_90 c hc]
  refine ⟨fun q => tl (by omega), fun q => ⟨fun q2 => tl (by omega), fun q2 => ?_⟩⟩
  have hr : 65 ≤ c ∧ c ≤ 90 := by omega
  have hg : isG c = true := by unfold isG; simpa using hr
  unfold dgo six at h
  rw [hg, if_pos rfl, if_neg (by omega)] at h
  rw [show (65 : Int32) = nI 65 from rfl, sb_lo c (by omega), pk_sub hr.1]
  exact h
theorem dgo_no {c : Nat} (h : six c = 999) : ¬ 0 ≤ dgo c := by unfold dgo; rw [if_pos h]; decide
theorem dgo_ok {c : Nat} (h : six c ≠ 999) : dgo c = nI (six c) := by unfold dgo; rw [if_neg h]
-- bits
theorem sh6 : ∀ b, b < 64 → ∀ s, s < 64 → (lz (b : Nat) <<< ((6 : Int32).toInt64 &&& 63)) ||| (nI s).toInt64 = lz ((b * 64 + s : Nat)) := by decide +kernel
theorem by2 : ∀ B, B < 256 → (((lz (B : Nat)) >>> ((nI 0).toInt64 &&& 63)).toInt32).toInt8.toInt32 = sb_b (B / 2 ^ 0) ∧ (lz (B : Nat)) &&& ((((1 : Int32) <<< ((nI 0) &&& 31)) - (1 : Int32))).toInt64 = lz ((B % 2 ^ 0 : Nat)) := by decide +kernel
theorem by4 : ∀ B, B < 1024 → (((lz (B : Nat)) >>> ((nI 2).toInt64 &&& 63)).toInt32).toInt8.toInt32 = sb_b (B / 2 ^ 2) ∧ (lz (B : Nat)) &&& ((((1 : Int32) <<< ((nI 2) &&& 31)) - (1 : Int32))).toInt64 = lz ((B % 2 ^ 2 : Nat)) := by decide +kernel
theorem by6' : ∀ a, a < 64 → ∀ b, b < 64 → (((lz ((a * 64 + b : Nat))) >>> ((nI 4).toInt64 &&& 63)).toInt32).toInt8.toInt32 = sb_b ((a * 64 + b) / 2 ^ 4) ∧ (lz ((a * 64 + b : Nat))) &&& ((((1 : Int32) <<< ((nI 4) &&& 31)) - (1 : Int32))).toInt64 = lz (((a * 64 + b) % 2 ^ 4 : Nat)) := by decide +kernel
theorem lz_0 {b : Nat} (h : b < 64) : lg_cmp (lz (b : Nat)) 0 = 0 ↔ b = 0 := by
  revert h
  revert b
  decide +kernel
def S_X10_decode (u : gx_S) (v0 : Nat) (v1 : Int32) (post : Int32 → gx_S → Prop) : Prop := v0 = 21 ∧ ∃ (t k : Nat) (T O M G : List Nat) (HC KC : Nat → Int32), mS u t T O M k G HC KC ∧ (∀ n, n ≤ 900 → v1 = nI n → aof n T = true → ∀ v, exM u v → mS v t [] (dcF T (nlet n) 0 0 0 []) M k G HC KC → post v1 v) ∧ (∀ n, n ≤ 900 → v1 = nI n → aof n T = false → ∀ v, exM u v → mS v t [] O M k G HC KC → post (-2) v) ∧ ((v1 < 0 ∨ nI 900 < v1) → post (-1) u)
theorem isA46 : gx_isA 46 .byte := ⟨by decide, rfl⟩
theorem in46 {i : Nat} (h : i < 900) : vp_in (nI i) (gx_len 46) := vp_in_nI (N := 900) h (by omega)
theorem eqF_no {L : List Nat} {c : Nat} (hc : ch L c ≠ 61) : ∀ k i, i ≤ c → c < i + k → eqF L k i = false
  | 0, i, h1, h2 => by omega
  | k + 1, i, h1, h2 => by
    unfold eqF
    split
    · rename_i q
      by_cases e : c = i
      · rw [e] at hc; exact absurd q hc
      · exact eqF_no hc k (i + 1) (by omega) (by omega)
    · rfl
theorem sxF_no {L : List Nat} {c : Nat} (hc : six (ch L c) = 999) : ∀ k i, i ≤ c → c < i + k → sxF L k i = false
  | 0, i, h1, h2 => by omega
  | k + 1, i, h1, h2 => by
    unfold sxF
    split
    · rfl
    · rename_i q
      by_cases e : c = i
      · rw [e] at hc; exact absurd hc q
      · exact sxF_no hc k (i + 1) (by omega) (by omega)
theorem eqF_ok {L : List Nat} : ∀ k i, (∀ j, i ≤ j → j < i + k → ch L j = 61) → eqF L k i = true
  | 0, i, _ => rfl
  | k + 1, i, h => by
    unfold eqF
    rw [if_pos (h i (Nat.le_refl _) (by omega))]
    exact eqF_ok k (i + 1) (fun j x y => h j (by omega) (by omega))
theorem sxF_ok {L : List Nat} : ∀ k i, (∀ j, i ≤ j → j < i + k → six (ch L j) ≠ 999) → sxF L k i = true
  | 0, i, _ => rfl
  | k + 1, i, h => by
    unfold sxF
    rw [if_neg (h i (Nat.le_refl _) (by omega))]
    exact sxF_ok k (i + 1) (fun j x y => h j (by omega) (by omega))
theorem lp150 {E : gx_E} (X : gx_X E cX10_decode 11 RX10 (some .int)) (hd : 2 ≤ ex_d E) {post : Int32 → gx_S → Prop} (hQ : ex_Q E = va_Qi post (gx_B (ex_Z E)) (gx_A (ex_Z E))) {u : gx_S} {t k n b : Nat} {v2 v3 v5 v6 : Int32} {T O M G V : List Nat} {HC KC : Nat → Int32} (hS : mS u t [] O M k G HC KC) (hT : rdb T (gx_a u 28)) (hn : n ≤ 900) (hTl : T.length = nlen n) (hsx : sxF T (nlet n) 0 = true) (hV : rdb V (gx_a u 46)) (hVn : V.length = n) (hb : b < 64) (hb2 : b = 0 ↔ aofE n T = true)
    (h1 : aof n T = true → ∀ v, exM u v → mS v t [] V M k G HC KC → post (nI n) v) (h2 : aof n T = false → post (-2) u) :
    ∀ m i, nlen n - i = m → nlet n ≤ i → i ≤ nlen n → (∀ j, nlet n ≤ j → j < i → ch T j = 61) → J_X10_decode_150 E 21 (nI n) v2 v3 (nI (nlen n)) v5 v6 (lz (b : Nat)) (nI i) u := by
  have hle : nlen n ≤ 2000 := by unfold nlen; omega
  have hf := hS.2.1
  intro m
  induction m with
  | zero =>
    intro i hm hi hi2 hj
    have ei : i = nlen n := by omega
    have ao : aof n T = aofE n T := by
      unfold aof
      rw [if_pos hTl, if_pos hsx, if_pos (eqF_ok _ _ (fun j x y => hj j x (by omega)))]
    refine w_X10_decode_150 X hd hQ ⟨fun _ => ?_, fun q => absurd (nI_le (by omega) (by omega)) q⟩
    rw [lz_0 hb, show gx_r u 21 18 = 46 from hf 21 18 (by decide) (by decide), show gx_r u 21 3 = 29 from hf 21 3 (by decide) (by decide), nI_clamp (by omega)]
    refine ⟨fun q => ⟨isO21, isA46.r, isA29, by decide, by decide, nI_pos (by omega), by show 0 + n ≤ 900; omega, by show 0 + n ≤ 4000; omega, fun u9 e9 u10 e10 => ?_⟩, fun q => h2 ?_⟩
    · have x10 : exG [29] [(21, 2)] u u10 := exG_tr (v := u9) (by rw [e9]; exact exG_pa _ _ (by simp)) (by rw [e10]; exact exG_pi _ _ (by simp))
      have s := mS_o hS x10 (O' := V) ⟨by rw [e10, gx_i_pi, if_pos ⟨rfl, rfl⟩, hVn], by omega, hV.1, fun j hj => by
        have g : gx_a u10 29 = va_cpy (gx_a u 46) (gx_a u 29) 0 0 n := by subst e10 e9; rfl
        rw [g, sb_cpy0 (by omega)]
        exact hV.2 j hj⟩
      exact h1 (by rw [ao]; exact hb2.mp q) u10 s.2 s.1
    · rw [ao]
      cases w : aofE n T with
      | false => rfl
      | true => exact absurd (hb2.mpr w) q
  | succ m ih =>
    intro i hm hi hi2 hj
    have hc := ch_lt hT.1 (j := i) (by omega)
    refine w_X10_decode_150 X hd hQ ⟨fun q => absurd q (nI_ge (by omega) (by omega)), fun _ => ⟨isO21, ?_⟩⟩
    rw [show gx_r u 21 0 = 28 from hf 21 0 (by decide) (by decide), nI_clamp (by omega), hT.2 i (by omega), show (61 : Int32) = nI 61 from rfl, sb_eq hc (by omega)]
    refine ⟨isA28.r, in28 (by omega), fun q => ?_, fun q => h2 ?_⟩
    · rintro x rfl
      rw [nI_1]
      refine ih (i + 1) (by omega) (by omega) (by omega) (fun j x y => ?_)
      by_cases ej : j = i
      · rw [ej]; exact q
      · exact hj j x (by omega)
    · unfold aof
      rw [if_pos hTl, if_pos hsx, if_neg]
      rw [eqF_no q _ _ hi (by omega)]
      decide
theorem lp59 {E : gx_E} (X : gx_X E cX10_decode 11 RX10 (some .int)) (hd : 2 ≤ ex_d E) {post : Int32 → gx_S → Prop} (hQ : ex_Q E = va_Qi post (gx_B (ex_Z E)) (gx_A (ex_Z E))) {u0 : gx_S} {t k n : Nat} {v2 : Int32} {T O M G : List Nat} {HC KC : Nat → Int32} (hS : mS u0 t [] O M k G HC KC) (hT : rdb T (gx_a u0 28)) (hn : n ≤ 900) (hTl : T.length = nlen n)
    (h1 : aof n T = true → ∀ v, exM u0 v → mS v t [] (dcF T (nlet n) 0 0 0 []) M k G HC KC → post (nI n) v) (h2 : aof n T = false → ∀ v, exM u0 v → mS v t [] O M k G HC KC → post (-2) v) :
    ∀ (m i w b : Nat) (V : List Nat) (u : gx_S), nlet n - i = m → i ≤ nlet n → exG [46] [] u0 u → 6 * i = 8 * V.length + w → w < 8 → (0 < i → b = six (ch T (i - 1)) % 2 ^ w) → (i = 0 → b = 0) → (∀ j, j < i → six (ch T j) ≠ 999) → rdb V (gx_a u 46) → dcF T m i w b V = dcF T (nlet n) 0 0 0 [] → J_X10_decode_59 E 21 (nI n) v2 (nI (nlet n)) (nI (nlen n)) (nI w) (nI V.length) (lz (b : Nat)) (nI i) u := by
  have hle : nlen n ≤ 2000 := by unfold nlen; omega
  have hll : nlet n ≤ nlen n := by unfold nlen nlet; omega
  have hl2 := nlet_ok n
  intro m
  induction m with
  | zero =>
    intro i w b V u hm hi hx h6 hw hb hb0 hsx hV hD
    have ei : i = nlet n := by omega
    have s := mS_x hS hx (by decide) (by decide)
    have hVn : V.length = n := by omega
    have hwr : w = nlet n * 6 - n * 8 := by omega
    have hbl : b < 64 := by
      by_cases z : i = 0
      · rw [hb0 z]; omega
      · rw [hb (by omega)]
        have := six_alt (ch T (i - 1))
        have h9 := hsx (i - 1) (by omega)
        have : six (ch T (i - 1)) % 2 ^ w ≤ six (ch T (i - 1)) := Nat.mod_le _ _
        omega
    have hD : V = dcF T (nlet n) 0 0 0 [] := hD
    refine w_X10_decode_59 X hd hQ ⟨fun _ => ?_, fun q => absurd (nI_le (by omega) (by omega)) q⟩
    refine lp150 X hd hQ s.1 (by rw [hx.2.2 28 (by decide)]; exact hT) hn hTl (sxF_ok _ _ (fun j x y => hsx j (by omega))) hV hVn hbl ?_ (fun z v xv mv => h1 z v (exM_tr s.2 xv) (by rw [← hD]; exact mv)) (fun z => h2 z u s.2 s.1) _ (nlet n) rfl (Nat.le_refl _) hll (fun j x y => by omega)
    unfold aofE
    by_cases z : n = 0
    · rw [if_pos z]
      have : i = 0 := by rw [ei, z]; rfl
      exact ⟨fun _ => rfl, fun _ => hb0 this⟩
    · rw [if_neg z, decide_eq_true_iff, ← hwr, ← ei, hb (by omega)]
  | succ m ih =>
    intro i w b V u hm hi hx h6 hw hb hb0 hsx hV hD
    have s := mS_x hS hx (by decide) (by decide)
    have hf := s.1.2.1
    have hc := ch_lt hT.1 (j := i) (by omega)
    refine w_X10_decode_59 X hd hQ ⟨fun q => absurd q (nI_ge (by omega) (by omega)), fun _ => ⟨isO21, ?_⟩⟩
    rw [show gx_r u 21 0 = 28 from hf 21 0 (by decide) (by decide), nI_clamp (by omega), hx.2.2 28 (by decide), hT.2 i (by omega)]
    refine ⟨isA28.r, in28 (by omega), i_X10_digitOf hc ⟨fun q => ?_, fun q => ?_⟩⟩
    · have q6 : six (ch T i) ≠ 999 := fun e => dgo_no e q
      have s64 : six (ch T i) < 64 := by have := six_alt (ch T i); omega
      rw [dgo_ok q6]
      have hbl : b < 64 := by
        by_cases z : i = 0
        · rw [hb0 z]; omega
        · rw [hb (by omega)]
          have := six_alt (ch T (i - 1))
          have h9 := hsx (i - 1) (by omega)
          have : six (ch T (i - 1)) % 2 ^ w ≤ six (ch T (i - 1)) := Nat.mod_le _ _
          omega
      have hbw : b < 2 ^ w := by
        by_cases z : i = 0
        · rw [hb0 z]; exact Nat.two_pow_pos _
        · rw [hb (by omega)]; exact Nat.mod_lt _ (Nat.two_pow_pos _)
      have hsx' : ∀ j, j < i + 1 → six (ch T j) ≠ 999 := fun j hj => by
        by_cases ej : j = i
        · rw [ej]; exact q6
        · exact hsx j (by omega)
      rintro x6 rfl x7 rfl
      rw [sh6 b hbl _ s64, show (6 : Int32) = nI 6 from rfl, nI_add, show (8 : Int32) = nI 8 from rfl, nI_leI (by omega) (by omega)]
      conv at hD => lhs; unfold dcF
      have hwc : w = 0 ∨ w = 2 ∨ w = 4 ∨ w = 6 := by omega
      refine ⟨fun q2 => ?_, fun q2 => ?_⟩
      · rw [if_neg (by omega)] at hD
        rintro x8 rfl
        rw [show -nI 8 = (-8 : Int32) from rfl, m8_ w hw (by omega), show gx_r u 21 18 = 46 from hf 21 18 (by decide) (by decide), nI_clamp (by omega)]
        refine ⟨isA46, in46 (by omega), fun u11 e11 => ?_⟩
        have hB : b * 64 + six (ch T i) < 2 ^ w * 64 := by omega
        have hby : ((((lz ((b * 64 + six (ch T i) : Nat))) >>> ((nI (w - 2)).toInt64 &&& 63)).toInt32).toInt8.toInt32 = sb_b ((b * 64 + six (ch T i)) / 2 ^ (w - 2)) ∧ (lz ((b * 64 + six (ch T i) : Nat))) &&& ((((1 : Int32) <<< ((nI (w - 2)) &&& 31)) - (1 : Int32))).toInt64 = lz (((b * 64 + six (ch T i)) % 2 ^ (w - 2) : Nat))) ∧ (b * 64 + six (ch T i)) / 2 ^ (w - 2) < 256 ∧ (b * 64 + six (ch T i)) % 2 ^ (w - 2) = six (ch T i) % 2 ^ (w - 2) := by
          rcases hwc with rfl | rfl | rfl | rfl
          · omega
          · exact ⟨by2 _ (by omega), by simp; omega, by simp; omega⟩
          · exact ⟨by4 _ (by omega), by simp; omega, by simp; omega⟩
          · exact ⟨by6' _ hbl _ s64, by simp; omega, by simp; omega⟩
        obtain ⟨⟨g1, g2⟩, g3, g4⟩ := hby
        rintro x12 rfl x13 rfl x14 rfl
        rw [g1, byte_sb g3] at e11
        rw [g2, nI_1, nI_1]
        have x11 : exG [46] [] u u11 := by rw [e11]; exact exG_pa _ _ (by simp)
        have ep := ih (i + 1) (w - 2) ((b * 64 + six (ch T i)) % 2 ^ (w - 2)) (V ++ [(b * 64 + six (ch T i)) / 2 ^ (w - 2)]) u11 (by omega) (by omega) (exG_tr hx x11) (by rw [len_push]; omega) (by omega) (fun _ => by rw [g4, Nat.add_sub_cancel]) (fun z => by omega) hsx' (by rw [e11, gx_a_pa, if_pos rfl]; exact rdb_push hV g3 rfl) hD
        rw [len_push] at ep
        exact ep
      · rw [if_pos (by omega)] at hD
        rintro x15 rfl
        rw [nI_1]
        have w0 : w = 0 := by omega
        subst w0
        have b0 : b = 0 := by omega
        subst b0
        refine ih (i + 1) (0 + 6) _ V u (by omega) (by omega) hx (by omega) (by omega) (fun _ => ?_) (fun z => by omega) hsx' hV hD
        rw [Nat.add_sub_cancel, Nat.mod_eq_of_lt (by simpa using s64)]
        omega
    · have q6 : six (ch T i) = 999 := by
        by_cases e : six (ch T i) = 999
        · exact e
        · have := six_alt (ch T i)
          rw [dgo_ok e] at q
          exact absurd (Int32.not_lt.mp (nI_pos (by omega))) q
      refine h2 ?_ u s.2 s.1
      unfold aof
      rw [if_pos hTl, if_neg]
      rw [sxF_no q6 _ _ (by omega) (by omega)]
      decide
theorem w_X10_decode {E : gx_E} (X : gx_X E cX10_decode 11 RX10 (some .int)) (hd : 2 ≤ ex_d E) {post : Int32 → gx_S → Prop} (hQ : ex_Q E = va_Qi post (gx_B (ex_Z E)) (gx_A (ex_Z E))) {u : gx_S} {v0 : Nat} {v1 : Int32} (h : S_X10_decode u v0 v1 post) : gx_Wc E 11 0 [(0, .ref (ex_ad E v0)), (1, .int v1)] [] u := by
  obtain ⟨rfl, t, k, T, O, M, G, HC, KC, hS, h1, h2, h3⟩ := h
  have hT := hS.2.2.1
  have hr := i32_r v1
  refine w_X10_decode_0 X hd hQ ?_
  rw [i2l_ v1, show (0 : Int64) = lz 0 from rfl, show (900 : Int64) = lz 900 from rfl]
  refine i_X10_in (by omega) (by omega) (by omega) ⟨fun q => ⟨isO21, isO21, ?_⟩, fun q => ?_⟩
  · have q := b2_n0 q
    have hx : 0 ≤ v1.toInt ∧ v1.toInt ≤ 900 := by simpa using q
    have h0 : ¬ v1 < 0 := by rw [Int32.lt_iff_toInt_lt, show (0 : Int32).toInt = 0 from rfl]; omega
    obtain ⟨n, hn, rfl⟩ := nI_of h0
    rw [nI_toInt hn] at hx
    intro x2 e2 u3 e3
    have s := mS_t hS (v := u3) (T' := []) (by rw [e3]; exact exG_pi _ _ (by simp)) (by rw [e3]; exact mt_cut hT (n := 0) (by omega))
    have a28 : gx_a u3 28 = gx_a u 28 := by rw [e3]; rfl
    rw [e2, hT.1]
    intro x6 e6 x7 e7
    have e6 : x6 = nI (nlet n) := by
      rw [e6, show (8 : Int32) = nI 8 from rfl, show (5 : Int32) = nI 5 from rfl, show (6 : Int32) = nI 6 from rfl, pk_mul, nI_add, pk_div (by omega) (by omega) (by omega)]
      unfold nlet
      rw [Nat.mul_comm]
    have e7 : x7 = nI (nlen n) := by
      rw [e7, e6, show (3 : Int32) = nI 3 from rfl, show (4 : Int32) = nI 4 from rfl, nI_add, pk_div (by unfold nlet; omega) (by omega) (by omega), pk_mul]
      congr 1
      unfold nlet nlen
      omega
    have hle : nlen n ≤ 2000 := by unfold nlen; omega
    rw [e6, e7, nI_eq (by have := hT.2.1; omega) (by omega)]
    refine ⟨fun q2 => ?_, fun q2 => ?_⟩
    · exact lp59 X hd hQ (u0 := u3) s.1 (by rw [a28]; exact hT.2.2) (by omega) q2 (fun z v xv mv => h1 n (by omega) rfl z v (exM_tr s.2 xv) mv) (fun z v xv mv => h2 n (by omega) rfl z v (exM_tr s.2 xv) mv) _ 0 0 0 [] u3 rfl (by omega) (exG_rf _ _ _) rfl (by omega) (fun z => absurd z (by omega)) (fun _ => rfl) (fun j hj => absurd hj (by omega)) (rdb_nil _) rfl
    · refine h2 n (by omega) rfl ?_ u3 s.2 s.1
      unfold aof
      rw [if_neg q2]
  · rw [b2_0] at q
    have hx : ¬ (0 ≤ v1.toInt ∧ v1.toInt ≤ 900) := by simpa using q
    refine h3 ?_
    rw [Int32.lt_iff_toInt_lt, Int32.lt_iff_toInt_lt, nI_toInt (by omega), show (0 : Int32).toInt = 0 from rfl]
    omega
theorem c_X10_decode {l : Launch} {Z : gx_Z} {u : gx_S} {v0 : Nat} {v1 : Int32} {post : Int32 → gx_S → Prop} (h : S_X10_decode u v0 v1 post) : Met l yX10_decode (Cond.code yX10_decode cX10_decode 11 (some .int) :: gx_TB) (gx_rm 2) (gx_Pre Z u [.ref (Z.2.1 v0), .int v1]) (va_Qi post (gx_B Z) (gx_A Z)) 0 0 (gx_A Z) := by
  refine gx_met (by decide +kernel) (Nat.le_of_ble_eq_true rfl) ?_
  intro E X hZ hQ hD hL
  subst hZ
  exact w_X10_decode X (Nat.le_of_eq hD.symm) hQ h

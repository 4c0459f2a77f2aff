-- PlainSeal$SixBits.lettersFor(I)I
theorem dX4_lettersFor_0 : decode cX4_lettersFor 0 = .ok (.iload_n 0, 1) := by decide +kernel
theorem dX4_lettersFor_1 : decode cX4_lettersFor 1 = .ok (.bipush 8, 2) := by decide +kernel
theorem dX4_lettersFor_3 : decode cX4_lettersFor 3 = .ok (.imul, 1) := by decide +kernel
theorem dX4_lettersFor_4 : decode cX4_lettersFor 4 = .ok (.iconst 5, 1) := by decide +kernel
theorem dX4_lettersFor_5 : decode cX4_lettersFor 5 = .ok (.iadd, 1) := by decide +kernel
theorem dX4_lettersFor_6 : decode cX4_lettersFor 6 = .ok (.bipush 6, 2) := by decide +kernel
theorem dX4_lettersFor_8 : decode cX4_lettersFor 8 = .ok (.idiv, 1) := by decide +kernel
theorem dX4_lettersFor_9 : decode cX4_lettersFor 9 = .ok (.ireturn, 1) := by decide +kernel
theorem hyX4_lettersFor : yX4_lettersFor.cls ≠ "java/lang/invoke/MethodHandle" ∧ yX4_lettersFor.cls ≠ "java/lang/invoke/VarHandle" ∧ (parseMethodDescriptor yX4_lettersFor.desc).map (fun d => d.parameters.length) = some 1 := by decide +kernel
def S_X4_lettersFor (u : gx_S) (v0 : Int32) (post : Int32 → gx_S → Prop) : Prop := post (((v0 * (8 : Int32)) + (5 : Int32)) / (6 : Int32)) u
set_option maxHeartbeats 4000000 in
set_option maxRecDepth 100000 in
theorem w_X4_lettersFor {E : gx_E} (X : gx_X E cX4_lettersFor 1 RX4 (some .int)) (hd : 0 ≤ ex_d E) {post : Int32 → gx_S → Prop} (hQ : ex_Q E = va_Qi post (gx_B (ex_Z E)) (gx_A (ex_Z E))) {u : gx_S} {v0 : Int32} (h : S_X4_lettersFor u v0 post) : gx_Wc E 1 0 [(0, .int v0)] [] u := by
  unfold S_X4_lettersFor at h
  refine gx_iload_n X (j := 0) dX4_lettersFor_0 rfl rfl ?_
  refine gx_bipush X (v := 8) dX4_lettersFor_1 (by decide) ?_
  refine gx_imul X dX4_lettersFor_3 ?_
  refine gx_iconst X (v := 5) dX4_lettersFor_4 (by decide) ?_
  refine gx_iadd X dX4_lettersFor_5 ?_
  refine gx_bipush X (v := 6) dX4_lettersFor_6 (by decide) ?_
  refine gx_idiv X dX4_lettersFor_8 (by decide) ?_
  exact gx_iret X hQ h dX4_lettersFor_9
theorem c_X4_lettersFor {l : Launch} {Z : gx_Z} {u : gx_S} {v0 : Int32} {post : Int32 → gx_S → Prop} (h : S_X4_lettersFor u v0 post) : Met l yX4_lettersFor (Cond.code yX4_lettersFor cX4_lettersFor 1 (some .int) :: gx_TB) (gx_rm 0) (gx_Pre Z u [.int v0]) (va_Qi post (gx_B Z) (gx_A Z)) 0 0 (gx_A Z) := by
  refine gx_met (by decide +kernel) (Nat.le_of_ble_eq_true rfl) ?_
  intro E X hZ hQ hD hL
  subst hZ
  exact w_X4_lettersFor X (Nat.le_of_eq hD.symm) hQ h
-- PlainSeal$SixBits.bitsOver(I)I
theorem dX4_bitsOver_0 : decode cX4_bitsOver 0 = .ok (.iconst 1, 1) := by decide +kernel
theorem dX4_bitsOver_1 : decode cX4_bitsOver 1 = .ok (.iload_n 0, 1) := by decide +kernel
theorem dX4_bitsOver_2 : decode cX4_bitsOver 2 = .ok (.invokestatic 9, 3) := by decide +kernel
theorem dX4_bitsOver_5 : decode cX4_bitsOver 5 = .ok (.bipush 6, 2) := by decide +kernel
theorem dX4_bitsOver_7 : decode cX4_bitsOver 7 = .ok (.imul, 1) := by decide +kernel
theorem dX4_bitsOver_8 : decode cX4_bitsOver 8 = .ok (.iload_n 0, 1) := by decide +kernel
theorem dX4_bitsOver_9 : decode cX4_bitsOver 9 = .ok (.bipush 8, 2) := by decide +kernel
theorem dX4_bitsOver_11 : decode cX4_bitsOver 11 = .ok (.imul, 1) := by decide +kernel
theorem dX4_bitsOver_12 : decode cX4_bitsOver 12 = .ok (.isub, 1) := by decide +kernel
theorem dX4_bitsOver_13 : decode cX4_bitsOver 13 = .ok (.ishl, 1) := by decide +kernel
theorem dX4_bitsOver_14 : decode cX4_bitsOver 14 = .ok (.iconst 1, 1) := by decide +kernel
theorem dX4_bitsOver_15 : decode cX4_bitsOver 15 = .ok (.isub, 1) := by decide +kernel
theorem dX4_bitsOver_16 : decode cX4_bitsOver 16 = .ok (.ireturn, 1) := by decide +kernel
theorem hyX4_bitsOver : yX4_bitsOver.cls ≠ "java/lang/invoke/MethodHandle" ∧ yX4_bitsOver.cls ≠ "java/lang/invoke/VarHandle" ∧ (parseMethodDescriptor yX4_bitsOver.desc).map (fun d => d.parameters.length) = some 1 := by decide +kernel
def S_X4_bitsOver (u : gx_S) (v0 : Int32) (post : Int32 → gx_S → Prop) : Prop := (S_X4_lettersFor u v0 (fun (r2 : Int32) (u1 : gx_S) => post (((1 : Int32) <<< (((r2 * (6 : Int32)) - (v0 * (8 : Int32))) &&& 31)) - (1 : Int32)) u1))
set_option maxHeartbeats 4000000 in
set_option maxRecDepth 100000 in
theorem w_X4_bitsOver {E : gx_E} (X : gx_X E cX4_bitsOver 1 RX4 (some .int)) (hd : 1 ≤ ex_d E) {post : Int32 → gx_S → Prop} (hQ : ex_Q E = va_Qi post (gx_B (ex_Z E)) (gx_A (ex_Z E))) {u : gx_S} {v0 : Int32} (h : S_X4_bitsOver u v0 post) : gx_Wc E 1 0 [(0, .int v0)] [] u := by
  unfold S_X4_bitsOver at h
  refine gx_iconst X (v := 1) dX4_bitsOver_0 (by decide) ?_
  refine gx_iload_n X (j := 0) dX4_bitsOver_1 rfl rfl ?_
  refine gx_ki (gx_rS X (c_X4_lettersFor h) (Nat.le_trans (by decide) hd) (Nat.le_trans (by decide) (Nat.mul_le_mul_left 40 hd)) mw_307 mw_308 mw_13 mw_309 hyX4_lettersFor (As := [.int v0]) (rest := [.int (1 : Int32)]) rfl rfl (Nat.le_of_ble_eq_true rfl) dX4_bitsOver_2) (fun r2 u1 h => ?_)
  refine gx_bipush X (v := 6) dX4_bitsOver_5 (by decide) ?_
  refine gx_imul X dX4_bitsOver_7 ?_
  refine gx_iload_n X (j := 0) dX4_bitsOver_8 rfl rfl ?_
  refine gx_bipush X (v := 8) dX4_bitsOver_9 (by decide) ?_
  refine gx_imul X dX4_bitsOver_11 ?_
  refine gx_isub X dX4_bitsOver_12 ?_
  refine gx_ishl X dX4_bitsOver_13 ?_
  refine gx_iconst X (v := 1) dX4_bitsOver_14 (by decide) ?_
  refine gx_isub X dX4_bitsOver_15 ?_
  exact gx_iret X hQ h dX4_bitsOver_16
theorem c_X4_bitsOver {l : Launch} {Z : gx_Z} {u : gx_S} {v0 : Int32} {post : Int32 → gx_S → Prop} (h : S_X4_bitsOver u v0 post) : Met l yX4_bitsOver (Cond.code yX4_bitsOver cX4_bitsOver 1 (some .int) :: gx_TB) (gx_rm 1) (gx_Pre Z u [.int v0]) (va_Qi post (gx_B Z) (gx_A Z)) 0 0 (gx_A Z) := by
  refine gx_met (by decide +kernel) (Nat.le_of_ble_eq_true rfl) ?_
  intro E X hZ hQ hD hL
  subst hZ
  exact w_X4_bitsOver X (Nat.le_of_eq hD.symm) hQ h
-- PlainSeal$SixBits.sixBits(I)I
theorem dX4_sixBits_0 : decode cX4_sixBits 0 = .ok (.iload_n 0, 1) := by decide +kernel
theorem dX4_sixBits_1 : decode cX4_sixBits 1 = .ok (.invokestatic 30, 3) := by decide +kernel
theorem dX4_sixBits_4 : decode cX4_sixBits 4 = .ok (.ifCond .eq 8, 3) := by decide +kernel
theorem dX4_sixBits_7 : decode cX4_sixBits 7 = .ok (.iload_n 0, 1) := by decide +kernel
theorem dX4_sixBits_8 : decode cX4_sixBits 8 = .ok (.bipush 65, 2) := by decide +kernel
theorem dX4_sixBits_10 : decode cX4_sixBits 10 = .ok (.isub, 1) := by decide +kernel
theorem dX4_sixBits_11 : decode cX4_sixBits 11 = .ok (.ireturn, 1) := by decide +kernel
theorem dX4_sixBits_12 : decode cX4_sixBits 12 = .ok (.iload_n 0, 1) := by decide +kernel
theorem dX4_sixBits_13 : decode cX4_sixBits 13 = .ok (.invokestatic 34, 3) := by decide +kernel
theorem dX4_sixBits_16 : decode cX4_sixBits 16 = .ok (.ifCond .eq 11, 3) := by decide +kernel
theorem dX4_sixBits_19 : decode cX4_sixBits 19 = .ok (.iload_n 0, 1) := by decide +kernel
theorem dX4_sixBits_20 : decode cX4_sixBits 20 = .ok (.bipush 97, 2) := by decide +kernel
theorem dX4_sixBits_22 : decode cX4_sixBits 22 = .ok (.isub, 1) := by decide +kernel
theorem dX4_sixBits_23 : decode cX4_sixBits 23 = .ok (.bipush 26, 2) := by decide +kernel
theorem dX4_sixBits_25 : decode cX4_sixBits 25 = .ok (.iadd, 1) := by decide +kernel
theorem dX4_sixBits_26 : decode cX4_sixBits 26 = .ok (.ireturn, 1) := by decide +kernel
theorem dX4_sixBits_27 : decode cX4_sixBits 27 = .ok (.iload_n 0, 1) := by decide +kernel
theorem dX4_sixBits_28 : decode cX4_sixBits 28 = .ok (.invokestatic 37, 3) := by decide +kernel
theorem dX4_sixBits_31 : decode cX4_sixBits 31 = .ok (.ifCond .eq 11, 3) := by decide +kernel
theorem dX4_sixBits_34 : decode cX4_sixBits 34 = .ok (.iload_n 0, 1) := by decide +kernel
theorem dX4_sixBits_35 : decode cX4_sixBits 35 = .ok (.bipush 48, 2) := by decide +kernel
theorem dX4_sixBits_37 : decode cX4_sixBits 37 = .ok (.isub, 1) := by decide +kernel
theorem dX4_sixBits_38 : decode cX4_sixBits 38 = .ok (.bipush 52, 2) := by decide +kernel
theorem dX4_sixBits_40 : decode cX4_sixBits 40 = .ok (.iadd, 1) := by decide +kernel
theorem dX4_sixBits_41 : decode cX4_sixBits 41 = .ok (.ireturn, 1) := by decide +kernel
theorem dX4_sixBits_42 : decode cX4_sixBits 42 = .ok (.iload_n 0, 1) := by decide +kernel
theorem dX4_sixBits_43 : decode cX4_sixBits 43 = .ok (.bipush 43, 2) := by decide +kernel
theorem dX4_sixBits_45 : decode cX4_sixBits 45 = .ok (.if_icmp .ne 6, 3) := by decide +kernel
theorem dX4_sixBits_48 : decode cX4_sixBits 48 = .ok (.bipush 62, 2) := by decide +kernel
theorem dX4_sixBits_50 : decode cX4_sixBits 50 = .ok (.ireturn, 1) := by decide +kernel
theorem dX4_sixBits_51 : decode cX4_sixBits 51 = .ok (.iload_n 0, 1) := by decide +kernel
theorem dX4_sixBits_52 : decode cX4_sixBits 52 = .ok (.bipush 47, 2) := by decide +kernel
theorem dX4_sixBits_54 : decode cX4_sixBits 54 = .ok (.if_icmp .ne 8, 3) := by decide +kernel
theorem dX4_sixBits_57 : decode cX4_sixBits 57 = .ok (.bipush 63, 2) := by decide +kernel
theorem dX4_sixBits_59 : decode cX4_sixBits 59 = .ok (.goto 5, 3) := by decide +kernel
theorem dX4_sixBits_62 : decode cX4_sixBits 62 = .ok (.bipush (-2), 2) := by decide +kernel
theorem dX4_sixBits_64 : decode cX4_sixBits 64 = .ok (.ireturn, 1) := by decide +kernel
theorem hyX4_sixBits : yX4_sixBits.cls ≠ "java/lang/invoke/MethodHandle" ∧ yX4_sixBits.cls ≠ "java/lang/invoke/VarHandle" ∧ (parseMethodDescriptor yX4_sixBits.desc).map (fun d => d.parameters.length) = some 1 := by decide +kernel
def S_X4_sixBits (u : gx_S) (v0 : Int32) (post : Int32 → gx_S → Prop) : Prop := (S_X6_isGreatLetter u v0 (fun (r2 : Int32) (u1 : gx_S) => ((r2 = 0 → (S_X6_isSmallLetter u1 v0 (fun (r4 : Int32) (u3 : gx_S) => ((r4 = 0 → (S_X6_isDigit u3 v0 (fun (r6 : Int32) (u5 : gx_S) => ((r6 = 0 → ((¬ v0 = (43 : Int32) → ((¬ v0 = (47 : Int32) → post (-2 : Int32) u5) ∧ (v0 = (47 : Int32) → post (63 : Int32) u5))) ∧ (v0 = (43 : Int32) → post (62 : Int32) u5))) ∧ (¬ r6 = 0 → post ((v0 - (48 : Int32)) + (52 : Int32)) u5))))) ∧ (¬ r4 = 0 → post ((v0 - (97 : Int32)) + (26 : Int32)) u3))))) ∧ (¬ r2 = 0 → post (v0 - (65 : Int32)) u1))))
set_option maxHeartbeats 4000000 in
set_option maxRecDepth 100000 in
theorem w_X4_sixBits {E : gx_E} (X : gx_X E cX4_sixBits 1 RX4 (some .int)) (hd : 1 ≤ ex_d E) {post : Int32 → gx_S → Prop} (hQ : ex_Q E = va_Qi post (gx_B (ex_Z E)) (gx_A (ex_Z E))) {u : gx_S} {v0 : Int32} (h : S_X4_sixBits u v0 post) : gx_Wc E 1 0 [(0, .int v0)] [] u := by
  unfold S_X4_sixBits at h
  refine gx_iload_n X (j := 0) dX4_sixBits_0 rfl rfl ?_
  refine gx_ki (gx_rSN X (c_X6_isGreatLetter h) (Nat.le_trans (by decide) hd) (Nat.le_trans (by decide) (Nat.mul_le_mul_left 40 hd)) mn_7 mw_176 mw_1 mw_177 hyX6_isGreatLetter (As := [.int v0]) (rest := []) rfl rfl (Nat.le_of_ble_eq_true rfl) dX4_sixBits_1) (fun r2 u1 h => ?_)
  refine gx_if_eq X (tgt := 12) dX4_sixBits_4 (by decide) (fun c11 => ?_) (fun c11 => ?_)
  · replace h := h.1 c11
    refine gx_iload_n X (j := 0) dX4_sixBits_12 rfl rfl ?_
    refine gx_ki (gx_rSN X (c_X6_isSmallLetter h) (Nat.le_trans (by decide) hd) (Nat.le_trans (by decide) (Nat.mul_le_mul_left 40 hd)) mn_8 mw_173 mw_1 mw_174 hyX6_isSmallLetter (As := [.int v0]) (rest := []) rfl rfl (Nat.le_of_ble_eq_true rfl) dX4_sixBits_13) (fun r4 u3 h => ?_)
    refine gx_if_eq X (tgt := 27) dX4_sixBits_16 (by decide) (fun c10 => ?_) (fun c10 => ?_)
    · replace h := h.1 c10
      refine gx_iload_n X (j := 0) dX4_sixBits_27 rfl rfl ?_
      refine gx_ki (gx_rSN X (c_X6_isDigit h) (Nat.le_trans (by decide) hd) (Nat.le_trans (by decide) (Nat.mul_le_mul_left 40 hd)) mn_9 mw_179 mw_1 mw_180 hyX6_isDigit (As := [.int v0]) (rest := []) rfl rfl (Nat.le_of_ble_eq_true rfl) dX4_sixBits_28) (fun r6 u5 h => ?_)
      refine gx_if_eq X (tgt := 42) dX4_sixBits_31 (by decide) (fun c9 => ?_) (fun c9 => ?_)
      · replace h := h.1 c9
        refine gx_iload_n X (j := 0) dX4_sixBits_42 rfl rfl ?_
        refine gx_bipush X (v := 43) dX4_sixBits_43 (by decide) ?_
        refine gx_icmp_ne X (tgt := 51) dX4_sixBits_45 (by decide) (fun c8 => ?_) (fun c8 => ?_)
        · replace h := h.1 c8
          refine gx_iload_n X (j := 0) dX4_sixBits_51 rfl rfl ?_
          refine gx_bipush X (v := 47) dX4_sixBits_52 (by decide) ?_
          refine gx_icmp_ne X (tgt := 62) dX4_sixBits_54 (by decide) (fun c7 => ?_) (fun c7 => ?_)
          · replace h := h.1 c7
            refine gx_bipush X (v := -2) dX4_sixBits_62 (by decide) ?_
            exact gx_iret X hQ h dX4_sixBits_64
          · replace h := h.2 c7
            refine gx_bipush X (v := 63) dX4_sixBits_57 (by decide) ?_
            refine gx_goto X (tgt := 64) dX4_sixBits_59 (by decide) ?_
            exact gx_iret X hQ h dX4_sixBits_64
        · replace h := h.2 c8
          refine gx_bipush X (v := 62) dX4_sixBits_48 (by decide) ?_
          exact gx_iret X hQ h dX4_sixBits_50
      · replace h := h.2 c9
        refine gx_iload_n X (j := 0) dX4_sixBits_34 rfl rfl ?_
        refine gx_bipush X (v := 48) dX4_sixBits_35 (by decide) ?_
        refine gx_isub X dX4_sixBits_37 ?_
        refine gx_bipush X (v := 52) dX4_sixBits_38 (by decide) ?_
        refine gx_iadd X dX4_sixBits_40 ?_
        exact gx_iret X hQ h dX4_sixBits_41
    · replace h := h.2 c10
      refine gx_iload_n X (j := 0) dX4_sixBits_19 rfl rfl ?_
      refine gx_bipush X (v := 97) dX4_sixBits_20 (by decide) ?_
      refine gx_isub X dX4_sixBits_22 ?_
      refine gx_bipush X (v := 26) dX4_sixBits_23 (by decide) ?_
      refine gx_iadd X dX4_sixBits_25 ?_
      exact gx_iret X hQ h dX4_sixBits_26
  · replace h := h.2 c11
    refine gx_iload_n X (j := 0) dX4_sixBits_7 rfl rfl ?_
    refine gx_bipush X (v := 65) dX4_sixBits_8 (by decide) ?_
    refine gx_isub X dX4_sixBits_10 ?_
    exact gx_iret X hQ h dX4_sixBits_11
theorem c_X4_sixBits {l : Launch} {Z : gx_Z} {u : gx_S} {v0 : Int32} {post : Int32 → gx_S → Prop} (h : S_X4_sixBits u v0 post) : Met l yX4_sixBits (Cond.code yX4_sixBits cX4_sixBits 1 (some .int) :: gx_TB) (gx_rm 1) (gx_Pre Z u [.int v0]) (va_Qi post (gx_B Z) (gx_A Z)) 0 0 (gx_A Z) := by
  refine gx_met (by decide +kernel) (Nat.le_of_ble_eq_true rfl) ?_
  intro E X hZ hQ hD hL
  subst hZ
  exact w_X4_sixBits X (Nat.le_of_eq hD.symm) hQ h
-- PlainSeal$SixBits.areOf(ILPlainSeal$Bytes;)Z
theorem dX4_areOf_0 : decode cX4_areOf 0 = .ok (.iload_n 0, 1) := by decide +kernel
theorem dX4_areOf_1 : decode cX4_areOf 1 = .ok (.invokestatic 9, 3) := by decide +kernel
theorem dX4_areOf_4 : decode cX4_areOf 4 = .ok (.istore_n 2, 1) := by decide +kernel
theorem dX4_areOf_5 : decode cX4_areOf 5 = .ok (.iload_n 0, 1) := by decide +kernel
theorem dX4_areOf_6 : decode cX4_areOf 6 = .ok (.iconst 2, 1) := by decide +kernel
theorem dX4_areOf_7 : decode cX4_areOf 7 = .ok (.iadd, 1) := by decide +kernel
theorem dX4_areOf_8 : decode cX4_areOf 8 = .ok (.iconst 3, 1) := by decide +kernel
theorem dX4_areOf_9 : decode cX4_areOf 9 = .ok (.idiv, 1) := by decide +kernel
theorem dX4_areOf_10 : decode cX4_areOf 10 = .ok (.iconst 4, 1) := by decide +kernel
theorem dX4_areOf_11 : decode cX4_areOf 11 = .ok (.imul, 1) := by decide +kernel
theorem dX4_areOf_12 : decode cX4_areOf 12 = .ok (.istore_n 3, 1) := by decide +kernel
theorem dX4_areOf_13 : decode cX4_areOf 13 = .ok (.aload_n 1, 1) := by decide +kernel
theorem dX4_areOf_14 : decode cX4_areOf 14 = .ok (.invokevirtual 15, 3) := by decide +kernel
theorem dX4_areOf_17 : decode cX4_areOf 17 = .ok (.iload_n 3, 1) := by decide +kernel
theorem dX4_areOf_18 : decode cX4_areOf 18 = .ok (.if_icmp .eq 5, 3) := by decide +kernel
theorem dX4_areOf_21 : decode cX4_areOf 21 = .ok (.iconst 0, 1) := by decide +kernel
theorem dX4_areOf_22 : decode cX4_areOf 22 = .ok (.ireturn, 1) := by decide +kernel
theorem dX4_areOf_23 : decode cX4_areOf 23 = .ok (.iconst 0, 1) := by decide +kernel
theorem dX4_areOf_24 : decode cX4_areOf 24 = .ok (.istore 4, 2) := by decide +kernel
theorem dX4_areOf_26 : decode cX4_areOf 26 = .ok (.iload 4, 2) := by decide +kernel
theorem dX4_areOf_28 : decode cX4_areOf 28 = .ok (.iload_n 2, 1) := by decide +kernel
theorem dX4_areOf_29 : decode cX4_areOf 29 = .ok (.if_icmp .ge 25, 3) := by decide +kernel
theorem dX4_areOf_32 : decode cX4_areOf 32 = .ok (.aload_n 1, 1) := by decide +kernel
theorem dX4_areOf_33 : decode cX4_areOf 33 = .ok (.iload 4, 2) := by decide +kernel
theorem dX4_areOf_35 : decode cX4_areOf 35 = .ok (.invokevirtual 21, 3) := by decide +kernel
theorem dX4_areOf_38 : decode cX4_areOf 38 = .ok (.invokestatic 24, 3) := by decide +kernel
theorem dX4_areOf_41 : decode cX4_areOf 41 = .ok (.bipush (-2), 2) := by decide +kernel
theorem dX4_areOf_43 : decode cX4_areOf 43 = .ok (.if_icmp .ne 5, 3) := by decide +kernel
theorem dX4_areOf_46 : decode cX4_areOf 46 = .ok (.iconst 0, 1) := by decide +kernel
theorem dX4_areOf_47 : decode cX4_areOf 47 = .ok (.ireturn, 1) := by decide +kernel
theorem dX4_areOf_48 : decode cX4_areOf 48 = .ok (.iinc 4 1, 3) := by decide +kernel
theorem dX4_areOf_51 : decode cX4_areOf 51 = .ok (.goto (-25), 3) := by decide +kernel
theorem dX4_areOf_54 : decode cX4_areOf 54 = .ok (.iload_n 2, 1) := by decide +kernel
theorem dX4_areOf_55 : decode cX4_areOf 55 = .ok (.istore 4, 2) := by decide +kernel
theorem dX4_areOf_57 : decode cX4_areOf 57 = .ok (.iload 4, 2) := by decide +kernel
theorem dX4_areOf_59 : decode cX4_areOf 59 = .ok (.iload_n 3, 1) := by decide +kernel
theorem dX4_areOf_60 : decode cX4_areOf 60 = .ok (.if_icmp .ge 22, 3) := by decide +kernel
theorem dX4_areOf_63 : decode cX4_areOf 63 = .ok (.aload_n 1, 1) := by decide +kernel
theorem dX4_areOf_64 : decode cX4_areOf 64 = .ok (.iload 4, 2) := by decide +kernel
theorem dX4_areOf_66 : decode cX4_areOf 66 = .ok (.invokevirtual 21, 3) := by decide +kernel
theorem dX4_areOf_69 : decode cX4_areOf 69 = .ok (.bipush 61, 2) := by decide +kernel
theorem dX4_areOf_71 : decode cX4_areOf 71 = .ok (.if_icmp .eq 5, 3) := by decide +kernel
theorem dX4_areOf_74 : decode cX4_areOf 74 = .ok (.iconst 0, 1) := by decide +kernel
theorem dX4_areOf_75 : decode cX4_areOf 75 = .ok (.ireturn, 1) := by decide +kernel
theorem dX4_areOf_76 : decode cX4_areOf 76 = .ok (.iinc 4 1, 3) := by decide +kernel
theorem dX4_areOf_79 : decode cX4_areOf 79 = .ok (.goto (-22), 3) := by decide +kernel
theorem dX4_areOf_82 : decode cX4_areOf 82 = .ok (.iload_n 0, 1) := by decide +kernel
theorem dX4_areOf_83 : decode cX4_areOf 83 = .ok (.ifCond .eq 21, 3) := by decide +kernel
theorem dX4_areOf_86 : decode cX4_areOf 86 = .ok (.aload_n 1, 1) := by decide +kernel
theorem dX4_areOf_87 : decode cX4_areOf 87 = .ok (.iload_n 2, 1) := by decide +kernel
theorem dX4_areOf_88 : decode cX4_areOf 88 = .ok (.iconst 1, 1) := by decide +kernel
theorem dX4_areOf_89 : decode cX4_areOf 89 = .ok (.isub, 1) := by decide +kernel
theorem dX4_areOf_90 : decode cX4_areOf 90 = .ok (.invokevirtual 21, 3) := by decide +kernel
theorem dX4_areOf_93 : decode cX4_areOf 93 = .ok (.invokestatic 24, 3) := by decide +kernel
theorem dX4_areOf_96 : decode cX4_areOf 96 = .ok (.iload_n 0, 1) := by decide +kernel
theorem dX4_areOf_97 : decode cX4_areOf 97 = .ok (.invokestatic 27, 3) := by decide +kernel
theorem dX4_areOf_100 : decode cX4_areOf 100 = .ok (.iand, 1) := by decide +kernel
theorem dX4_areOf_101 : decode cX4_areOf 101 = .ok (.ifCond .ne 7, 3) := by decide +kernel
theorem dX4_areOf_104 : decode cX4_areOf 104 = .ok (.iconst 1, 1) := by decide +kernel
theorem dX4_areOf_105 : decode cX4_areOf 105 = .ok (.goto 4, 3) := by decide +kernel
theorem dX4_areOf_108 : decode cX4_areOf 108 = .ok (.iconst 0, 1) := by decide +kernel
theorem dX4_areOf_109 : decode cX4_areOf 109 = .ok (.ireturn, 1) := by decide +kernel
theorem hyX4_areOf : yX4_areOf.cls ≠ "java/lang/invoke/MethodHandle" ∧ yX4_areOf.cls ≠ "java/lang/invoke/VarHandle" ∧ (parseMethodDescriptor yX4_areOf.desc).map (fun d => d.parameters.length) = some 2 := by decide +kernel
abbrev J_X4_areOf_26 (E : gx_E) (v0 : Int32) (v1 : Nat) (v2 : Int32) (v3 : Int32) (v4 : Int32) (u : gx_S) : Prop := gx_Wc E 5 26 [(0, .int v0), (1, .ref (ex_ad E v1)), (2, .int v2), (3, .int v3), (4, .int v4)] [] u
abbrev J_X4_areOf_57 (E : gx_E) (v0 : Int32) (v1 : Nat) (v2 : Int32) (v3 : Int32) (v4 : Int32) (u : gx_S) : Prop := gx_Wc E 5 57 [(0, .int v0), (1, .ref (ex_ad E v1)), (2, .int v2), (3, .int v3), (4, .int v4)] [] u
set_option maxHeartbeats 4000000 in
set_option maxRecDepth 100000 in
theorem w_X4_areOf_0 {E : gx_E} (X : gx_X E cX4_areOf 5 RX4 (some .boolean)) (hd : 2 ≤ ex_d E) {post : Int32 → gx_S → Prop} (hQ : ex_Q E = va_Qi post (gx_B (ex_Z E)) (gx_A (ex_Z E))) {u : gx_S} {v0 : Int32} {v1 : Nat} (h : (S_X4_lettersFor u v0 (fun (r2 : Int32) (u1 : gx_S) => (∀ x3 : Int32, x3 = (((v0 + (2 : Int32)) / (3 : Int32)) * (4 : Int32)) → (gx_isO v1 0 ∧ S_X0_size u1 v1 (fun (r6 : Int32) (u5 : gx_S) => ((r6 = x3 → J_X4_areOf_26 E v0 v1 r2 x3 (0 : Int32) u5) ∧ (¬ r6 = x3 → post (0 : Int32) u5)))))))) : gx_Wc E 5 0 [(0, .int v0), (1, .ref (ex_ad E v1))] [] u := by
  refine gx_iload_n X (j := 0) dX4_areOf_0 rfl rfl ?_
  refine gx_ki (gx_rS X (c_X4_lettersFor h) (Nat.le_trans (by decide) hd) (Nat.le_trans (by decide) (Nat.mul_le_mul_left 40 hd)) mw_307 mw_308 mw_13 mw_309 hyX4_lettersFor (As := [.int v0]) (rest := []) rfl rfl (Nat.le_of_ble_eq_true rfl) dX4_areOf_1) (fun r2 u1 h => ?_)
  refine gx_istore_n X (lv' := [(2, .int r2), (0, .int v0), (1, .ref (ex_ad E v1))]) dX4_areOf_4 rfl (by decide) rfl ?_
  refine gx_iload_n X (j := 1) dX4_areOf_5 rfl rfl ?_
  refine gx_iconst X (v := 2) dX4_areOf_6 (by decide) ?_
  refine gx_iadd X dX4_areOf_7 ?_
  refine gx_iconst X (v := 3) dX4_areOf_8 (by decide) ?_
  refine gx_idiv X dX4_areOf_9 (by decide) ?_
  refine gx_iconst X (v := 4) dX4_areOf_10 (by decide) ?_
  refine gx_imul X dX4_areOf_11 ?_
  refine gx_nami (fun x3 ex3 => ?_)
  replace h := h x3 ex3
  refine gx_istore_n X (lv' := [(3, .int x3), (2, .int r2), (0, .int v0), (1, .ref (ex_ad E v1))]) dX4_areOf_12 rfl (by decide) rfl ?_
  refine gx_aload_n X (j := 3) dX4_areOf_13 rfl rfl ?_
  obtain ⟨k4, h⟩ := h
  refine gx_ki (gx_rV X (c_X0_size h) (Nat.le_trans (by decide) hd) (Nat.le_trans (by decide) (Nat.mul_le_mul_left 40 hd)) k4 rfl mw_310 mw_128 mw_129 mw_2 mw_130 hyX0_size (As := []) (rest := []) rfl rfl (Nat.le_of_ble_eq_true rfl) dX4_areOf_14) (fun r6 u5 h => ?_)
  refine gx_iload_n X (j := 0) dX4_areOf_17 rfl rfl ?_
  refine gx_icmp_eq X (tgt := 23) dX4_areOf_18 (by decide) (fun c7 => ?_) (fun c7 => ?_)
  · replace h := h.1 c7
    refine gx_iconst X (v := 0) dX4_areOf_23 (by decide) ?_
    refine gx_istore X (lv' := [(4, .int (0 : Int32)), (3, .int x3), (2, .int r2), (0, .int v0), (1, .ref (ex_ad E v1))]) dX4_areOf_24 (by decide) rfl ?_
    exact gx_sub [3, 4, 2, 1, 0] rfl h
  · replace h := h.2 c7
    refine gx_iconst X (v := 0) dX4_areOf_21 (by decide) ?_
    exact gx_zret X hQ rfl h dX4_areOf_22
set_option maxHeartbeats 4000000 in
set_option maxRecDepth 100000 in
theorem w_X4_areOf_26 {E : gx_E} (X : gx_X E cX4_areOf 5 RX4 (some .boolean)) (hd : 2 ≤ ex_d E) {post : Int32 → gx_S → Prop} (hQ : ex_Q E = va_Qi post (gx_B (ex_Z E)) (gx_A (ex_Z E))) {u : gx_S} {v0 : Int32} {v1 : Nat} {v2 : Int32} {v3 : Int32} {v4 : Int32} (h : ((v2 ≤ v4 → J_X4_areOf_57 E v0 v1 v2 v3 v2 u) ∧ (¬ v2 ≤ v4 → (gx_isO v1 0 ∧ S_X0_at u v1 v4 (fun (r3 : Int32) (u2 : gx_S) => (S_X4_sixBits u2 r3 (fun (r5 : Int32) (u4 : gx_S) => ((¬ r5 = (-2 : Int32) → (∀ x6 : Int32, x6 = v4 + 1 → J_X4_areOf_26 E v0 v1 v2 v3 x6 u4)) ∧ (r5 = (-2 : Int32) → post (0 : Int32) u4))))))))) : gx_Wc E 5 26 [(0, .int v0), (1, .ref (ex_ad E v1)), (2, .int v2), (3, .int v3), (4, .int v4)] [] u := by
  refine gx_iload X (j := 4) dX4_areOf_26 rfl ?_
  refine gx_iload_n X (j := 2) dX4_areOf_28 rfl rfl ?_
  refine gx_icmp_ge X (tgt := 54) dX4_areOf_29 (by decide) (fun c8 => ?_) (fun c8 => ?_)
  · replace h := h.1 c8
    refine gx_iload_n X (j := 2) dX4_areOf_54 rfl rfl ?_
    refine gx_istore X (lv' := [(4, .int v2), (0, .int v0), (1, .ref (ex_ad E v1)), (2, .int v2), (3, .int v3)]) dX4_areOf_55 (by decide) rfl ?_
    exact gx_sub [1, 2, 3, 4, 0] rfl h
  · replace h := h.2 c8
    refine gx_aload_n X (j := 1) dX4_areOf_32 rfl rfl ?_
    refine gx_iload X (j := 4) dX4_areOf_33 rfl ?_
    obtain ⟨k1, h⟩ := h
    refine gx_ki (gx_rV X (c_X0_at h) (Nat.le_trans (by decide) hd) (Nat.le_trans (by decide) (Nat.mul_le_mul_left 40 hd)) k1 rfl mw_311 mw_163 mw_164 mw_2 mw_165 hyX0_at (As := [.int v4]) (rest := []) rfl rfl (Nat.le_of_ble_eq_true rfl) dX4_areOf_35) (fun r3 u2 h => ?_)
    refine gx_ki (gx_rS X (c_X4_sixBits h) (Nat.le_trans (by decide) hd) (Nat.le_trans (by decide) (Nat.mul_le_mul_left 40 hd)) mw_312 mw_313 mw_13 mw_314 hyX4_sixBits (As := [.int r3]) (rest := []) rfl rfl (Nat.le_of_ble_eq_true rfl) dX4_areOf_38) (fun r5 u4 h => ?_)
    refine gx_bipush X (v := -2) dX4_areOf_41 (by decide) ?_
    refine gx_icmp_ne X (tgt := 48) dX4_areOf_43 (by decide) (fun c7 => ?_) (fun c7 => ?_)
    · replace h := h.1 c7
      obtain ⟨x6, ex6⟩ : ∃ y : Int32, y = v4 + 1 := ⟨_, rfl⟩
      replace h := h x6 ex6
      refine gx_iinc X (v := x6) (lv' := [(4, .int x6), (0, .int v0), (1, .ref (ex_ad E v1)), (2, .int v2), (3, .int v3)]) dX4_areOf_48 (j := 4) rfl (by rw [ex6]; rfl) (by decide) rfl ?_
      refine gx_goto X (tgt := 26) dX4_areOf_51 (by decide) ?_
      exact gx_sub [1, 2, 3, 4, 0] rfl h
    · replace h := h.2 c7
      refine gx_iconst X (v := 0) dX4_areOf_46 (by decide) ?_
      exact gx_zret X hQ rfl h dX4_areOf_47
set_option maxHeartbeats 4000000 in
set_option maxRecDepth 100000 in
theorem w_X4_areOf_57 {E : gx_E} (X : gx_X E cX4_areOf 5 RX4 (some .boolean)) (hd : 2 ≤ ex_d E) {post : Int32 → gx_S → Prop} (hQ : ex_Q E = va_Qi post (gx_B (ex_Z E)) (gx_A (ex_Z E))) {u : gx_S} {v0 : Int32} {v1 : Nat} {v2 : Int32} {v3 : Int32} {v4 : Int32} (h : ((v3 ≤ v4 → ((v0 = 0 → post (1 : Int32) u) ∧ (¬ v0 = 0 → (gx_isO v1 0 ∧ S_X0_at u v1 (v2 - (1 : Int32)) (fun (r3 : Int32) (u2 : gx_S) => (S_X4_sixBits u2 r3 (fun (r5 : Int32) (u4 : gx_S) => (S_X4_bitsOver u4 v0 (fun (r7 : Int32) (u6 : gx_S) => ((¬ (r5 &&& r7) = 0 → post (0 : Int32) u6) ∧ ((r5 &&& r7) = 0 → post (1 : Int32) u6))))))))))) ∧ (¬ v3 ≤ v4 → (gx_isO v1 0 ∧ S_X0_at u v1 v4 (fun (r12 : Int32) (u11 : gx_S) => ((r12 = (61 : Int32) → (∀ x13 : Int32, x13 = v4 + 1 → J_X4_areOf_57 E v0 v1 v2 v3 x13 u11)) ∧ (¬ r12 = (61 : Int32) → post (0 : Int32) u11))))))) : gx_Wc E 5 57 [(0, .int v0), (1, .ref (ex_ad E v1)), (2, .int v2), (3, .int v3), (4, .int v4)] [] u := by
  refine gx_iload X (j := 4) dX4_areOf_57 rfl ?_
  refine gx_iload_n X (j := 3) dX4_areOf_59 rfl rfl ?_
  refine gx_icmp_ge X (tgt := 82) dX4_areOf_60 (by decide) (fun c15 => ?_) (fun c15 => ?_)
  · replace h := h.1 c15
    refine gx_iload_n X (j := 0) dX4_areOf_82 rfl rfl ?_
    refine gx_if_eq X (tgt := 104) dX4_areOf_83 (by decide) (fun c9 => ?_) (fun c9 => ?_)
    · replace h := h.1 c9
      refine gx_iconst X (v := 1) dX4_areOf_104 (by decide) ?_
      refine gx_goto X (tgt := 109) dX4_areOf_105 (by decide) ?_
      exact gx_zret X hQ rfl h dX4_areOf_109
    · replace h := h.2 c9
      refine gx_aload_n X (j := 1) dX4_areOf_86 rfl rfl ?_
      refine gx_iload_n X (j := 2) dX4_areOf_87 rfl rfl ?_
      refine gx_iconst X (v := 1) dX4_areOf_88 (by decide) ?_
      refine gx_isub X dX4_areOf_89 ?_
      obtain ⟨k1, h⟩ := h
      refine gx_ki (gx_rV X (c_X0_at h) (Nat.le_trans (by decide) hd) (Nat.le_trans (by decide) (Nat.mul_le_mul_left 40 hd)) k1 rfl mw_311 mw_163 mw_164 mw_2 mw_165 hyX0_at (As := [.int (v2 - (1 : Int32))]) (rest := []) rfl rfl (Nat.le_of_ble_eq_true rfl) dX4_areOf_90) (fun r3 u2 h => ?_)
      refine gx_ki (gx_rS X (c_X4_sixBits h) (Nat.le_trans (by decide) hd) (Nat.le_trans (by decide) (Nat.mul_le_mul_left 40 hd)) mw_312 mw_313 mw_13 mw_314 hyX4_sixBits (As := [.int r3]) (rest := []) rfl rfl (Nat.le_of_ble_eq_true rfl) dX4_areOf_93) (fun r5 u4 h => ?_)
      refine gx_iload_n X (j := 0) dX4_areOf_96 rfl rfl ?_
      refine gx_ki (gx_rS X (c_X4_bitsOver h) (Nat.le_trans (by decide) hd) (Nat.le_trans (by decide) (Nat.mul_le_mul_left 40 hd)) mw_318 mw_319 mw_13 mw_320 hyX4_bitsOver (As := [.int v0]) (rest := [.int r5]) rfl rfl (Nat.le_of_ble_eq_true rfl) dX4_areOf_97) (fun r7 u6 h => ?_)
      refine gx_iand X dX4_areOf_100 ?_
      refine gx_if_ne X (tgt := 108) dX4_areOf_101 (by decide) (fun c8 => ?_) (fun c8 => ?_)
      · replace h := h.1 c8
        refine gx_iconst X (v := 0) dX4_areOf_108 (by decide) ?_
        exact gx_zret X hQ rfl h dX4_areOf_109
      · replace h := h.2 c8
        refine gx_iconst X (v := 1) dX4_areOf_104 (by decide) ?_
        refine gx_goto X (tgt := 109) dX4_areOf_105 (by decide) ?_
        exact gx_zret X hQ rfl h dX4_areOf_109
  · replace h := h.2 c15
    refine gx_aload_n X (j := 1) dX4_areOf_63 rfl rfl ?_
    refine gx_iload X (j := 4) dX4_areOf_64 rfl ?_
    obtain ⟨k10, h⟩ := h
    refine gx_ki (gx_rV X (c_X0_at h) (Nat.le_trans (by decide) hd) (Nat.le_trans (by decide) (Nat.mul_le_mul_left 40 hd)) k10 rfl mw_311 mw_163 mw_164 mw_2 mw_165 hyX0_at (As := [.int v4]) (rest := []) rfl rfl (Nat.le_of_ble_eq_true rfl) dX4_areOf_66) (fun r12 u11 h => ?_)
    refine gx_bipush X (v := 61) dX4_areOf_69 (by decide) ?_
    refine gx_icmp_eq X (tgt := 76) dX4_areOf_71 (by decide) (fun c14 => ?_) (fun c14 => ?_)
    · replace h := h.1 c14
      obtain ⟨x13, ex13⟩ : ∃ y : Int32, y = v4 + 1 := ⟨_, rfl⟩
      replace h := h x13 ex13
      refine gx_iinc X (v := x13) (lv' := [(4, .int x13), (0, .int v0), (1, .ref (ex_ad E v1)), (2, .int v2), (3, .int v3)]) dX4_areOf_76 (j := 4) rfl (by rw [ex13]; rfl) (by decide) rfl ?_
      refine gx_goto X (tgt := 57) dX4_areOf_79 (by decide) ?_
      exact gx_sub [1, 2, 3, 4, 0] rfl h
    · replace h := h.2 c14
      refine gx_iconst X (v := 0) dX4_areOf_74 (by decide) ?_
      exact gx_zret X hQ rfl h dX4_areOf_75
-- PlainSeal$SixBits.write(ILPlainSeal$Bytes;LPlainSeal$Bytes;)V
theorem dX4_write_0 : decode cX4_write 0 = .ok (.iconst 0, 1) := by decide +kernel
theorem dX4_write_1 : decode cX4_write 1 = .ok (.istore_n 3, 1) := by decide +kernel
theorem dX4_write_2 : decode cX4_write 2 = .ok (.iconst 0, 1) := by decide +kernel
theorem dX4_write_3 : decode cX4_write 3 = .ok (.istore 4, 2) := by decide +kernel
theorem dX4_write_5 : decode cX4_write 5 = .ok (.aload_n 2, 1) := by decide +kernel
theorem dX4_write_6 : decode cX4_write 6 = .ok (.invokevirtual 40, 3) := by decide +kernel
theorem dX4_write_9 : decode cX4_write 9 = .ok (.iconst 0, 1) := by decide +kernel
theorem dX4_write_10 : decode cX4_write 10 = .ok (.istore 5, 2) := by decide +kernel
theorem dX4_write_12 : decode cX4_write 12 = .ok (.iload 5, 2) := by decide +kernel
theorem dX4_write_14 : decode cX4_write 14 = .ok (.iload_n 0, 1) := by decide +kernel
theorem dX4_write_15 : decode cX4_write 15 = .ok (.invokestatic 9, 3) := by decide +kernel
theorem dX4_write_18 : decode cX4_write 18 = .ok (.if_icmp .ge 45, 3) := by decide +kernel
theorem dX4_write_21 : decode cX4_write 21 = .ok (.iload_n 3, 1) := by decide +kernel
theorem dX4_write_22 : decode cX4_write 22 = .ok (.bipush 6, 2) := by decide +kernel
theorem dX4_write_24 : decode cX4_write 24 = .ok (.ishl, 1) := by decide +kernel
theorem dX4_write_25 : decode cX4_write 25 = .ok (.aload_n 1, 1) := by decide +kernel
theorem dX4_write_26 : decode cX4_write 26 = .ok (.iload 5, 2) := by decide +kernel
theorem dX4_write_28 : decode cX4_write 28 = .ok (.invokevirtual 21, 3) := by decide +kernel
theorem dX4_write_31 : decode cX4_write 31 = .ok (.invokestatic 24, 3) := by decide +kernel
theorem dX4_write_34 : decode cX4_write 34 = .ok (.ior, 1) := by decide +kernel
theorem dX4_write_35 : decode cX4_write 35 = .ok (.istore_n 3, 1) := by decide +kernel
theorem dX4_write_36 : decode cX4_write 36 = .ok (.iinc 4 6, 3) := by decide +kernel
theorem dX4_write_39 : decode cX4_write 39 = .ok (.iload 4, 2) := by decide +kernel
theorem dX4_write_41 : decode cX4_write 41 = .ok (.bipush 8, 2) := by decide +kernel
theorem dX4_write_43 : decode cX4_write 43 = .ok (.if_icmp .lt 14, 3) := by decide +kernel
theorem dX4_write_46 : decode cX4_write 46 = .ok (.iinc 4 (-8), 3) := by decide +kernel
theorem dX4_write_49 : decode cX4_write 49 = .ok (.aload_n 2, 1) := by decide +kernel
theorem dX4_write_50 : decode cX4_write 50 = .ok (.iload_n 3, 1) := by decide +kernel
theorem dX4_write_51 : decode cX4_write 51 = .ok (.iload 4, 2) := by decide +kernel
theorem dX4_write_53 : decode cX4_write 53 = .ok (.iushr, 1) := by decide +kernel
theorem dX4_write_54 : decode cX4_write 54 = .ok (.invokevirtual 43, 3) := by decide +kernel
theorem dX4_write_57 : decode cX4_write 57 = .ok (.iinc 5 1, 3) := by decide +kernel
theorem dX4_write_60 : decode cX4_write 60 = .ok (.goto (-48), 3) := by decide +kernel
theorem dX4_write_63 : decode cX4_write 63 = .ok (.return_, 1) := by decide +kernel
theorem hyX4_write : yX4_write.cls ≠ "java/lang/invoke/MethodHandle" ∧ yX4_write.cls ≠ "java/lang/invoke/VarHandle" ∧ (parseMethodDescriptor yX4_write.desc).map (fun d => d.parameters.length) = some 3 := by decide +kernel
abbrev J_X4_write_12 (E : gx_E) (v0 : Int32) (v1 : Nat) (v2 : Nat) (v3 : Int32) (v4 : Int32) (v5 : Int32) (u : gx_S) : Prop := gx_Wc E 6 12 [(0, .int v0), (1, .ref (ex_ad E v1)), (2, .ref (ex_ad E v2)), (3, .int v3), (4, .int v4), (5, .int v5)] [] u
set_option maxHeartbeats 4000000 in
set_option maxRecDepth 100000 in
theorem w_X4_write_0 {E : gx_E} (X : gx_X E cX4_write 6 RX4 none) (hd : 2 ≤ ex_d E) {post : gx_S → Prop} (hQ : ex_Q E = va_Qv post (gx_B (ex_Z E)) (gx_A (ex_Z E))) {u : gx_S} {v0 : Int32} {v1 : Nat} {v2 : Nat} (h : (gx_isO v2 0 ∧ S_X0_clear u v2 (fun (u2 : gx_S) => J_X4_write_12 E v0 v1 v2 (0 : Int32) (0 : Int32) (0 : Int32) u2))) : gx_Wc E 6 0 [(0, .int v0), (1, .ref (ex_ad E v1)), (2, .ref (ex_ad E v2))] [] u := by
  refine gx_iconst X (v := 0) dX4_write_0 (by decide) ?_
  refine gx_istore_n X (lv' := [(3, .int (0 : Int32)), (0, .int v0), (1, .ref (ex_ad E v1)), (2, .ref (ex_ad E v2))]) dX4_write_1 rfl (by decide) rfl ?_
  refine gx_iconst X (v := 0) dX4_write_2 (by decide) ?_
  refine gx_istore X (lv' := [(4, .int (0 : Int32)), (3, .int (0 : Int32)), (0, .int v0), (1, .ref (ex_ad E v1)), (2, .ref (ex_ad E v2))]) dX4_write_3 (by decide) rfl ?_
  refine gx_aload_n X (j := 4) dX4_write_5 rfl rfl ?_
  obtain ⟨k1, h⟩ := h
  refine gx_kv (gx_rV X (c_X0_clear h) (Nat.le_trans (by decide) hd) (Nat.le_trans (by decide) (Nat.mul_le_mul_left 40 hd)) k1 rfl mw_324 mw_192 mw_193 mw_2 mw_194 hyX0_clear (As := []) (rest := []) rfl rfl (Nat.le_of_ble_eq_true rfl) dX4_write_6) (fun u2 h => ?_)
  refine gx_iconst X (v := 0) dX4_write_9 (by decide) ?_
  refine gx_istore X (lv' := [(5, .int (0 : Int32)), (4, .int (0 : Int32)), (3, .int (0 : Int32)), (0, .int v0), (1, .ref (ex_ad E v1)), (2, .ref (ex_ad E v2))]) dX4_write_10 (by decide) rfl ?_
  exact gx_sub [3, 4, 5, 2, 1, 0] rfl h
set_option maxHeartbeats 4000000 in
set_option maxRecDepth 100000 in
theorem w_X4_write_12 {E : gx_E} (X : gx_X E cX4_write 6 RX4 none) (hd : 2 ≤ ex_d E) {post : gx_S → Prop} (hQ : ex_Q E = va_Qv post (gx_B (ex_Z E)) (gx_A (ex_Z E))) {u : gx_S} {v0 : Int32} {v1 : Nat} {v2 : Nat} {v3 : Int32} {v4 : Int32} {v5 : Int32} (h : (S_X4_lettersFor u v0 (fun (r2 : Int32) (u1 : gx_S) => ((r2 ≤ v5 → post u1) ∧ (¬ r2 ≤ v5 → (gx_isO v1 0 ∧ S_X0_at u1 v1 v5 (fun (r5 : Int32) (u4 : gx_S) => (S_X4_sixBits u4 r5 (fun (r7 : Int32) (u6 : gx_S) => (∀ x8 : Int32, x8 = ((v3 <<< ((6 : Int32) &&& 31)) ||| r7) → (∀ x9 : Int32, x9 = v4 + 6 → ((x9 < (8 : Int32) → (∀ x10 : Int32, x10 = v5 + 1 → J_X4_write_12 E v0 v1 v2 x8 x9 x10 u6)) ∧ (¬ x9 < (8 : Int32) → (∀ x11 : Int32, x11 = x9 + (-8) → (gx_isO v2 0 ∧ S_X0_add u6 v2 ((x8.toUInt32 >>> (x11.toUInt32 &&& Int32.toUInt32 31)).toInt32) (fun (u13 : gx_S) => (∀ x14 : Int32, x14 = v5 + 1 → J_X4_write_12 E v0 v1 v2 x8 x11 x14 u13))))))))))))))))) : gx_Wc E 6 12 [(0, .int v0), (1, .ref (ex_ad E v1)), (2, .ref (ex_ad E v2)), (3, .int v3), (4, .int v4), (5, .int v5)] [] u := by
  refine gx_iload X (j := 5) dX4_write_12 rfl ?_
  refine gx_iload_n X (j := 0) dX4_write_14 rfl rfl ?_
  refine gx_ki (gx_rS X (c_X4_lettersFor h) (Nat.le_trans (by decide) hd) (Nat.le_trans (by decide) (Nat.mul_le_mul_left 40 hd)) mw_307 mw_308 mw_13 mw_309 hyX4_lettersFor (As := [.int v0]) (rest := [.int v5]) rfl rfl (Nat.le_of_ble_eq_true rfl) dX4_write_15) (fun r2 u1 h => ?_)
  refine gx_icmp_ge X (tgt := 63) dX4_write_18 (by decide) (fun c16 => ?_) (fun c16 => ?_)
  · replace h := h.1 c16
    exact gx_vret X hQ h dX4_write_63
  · replace h := h.2 c16
    refine gx_iload_n X (j := 3) dX4_write_21 rfl rfl ?_
    refine gx_bipush X (v := 6) dX4_write_22 (by decide) ?_
    refine gx_ishl X dX4_write_24 ?_
    refine gx_aload_n X (j := 1) dX4_write_25 rfl rfl ?_
    refine gx_iload X (j := 5) dX4_write_26 rfl ?_
    obtain ⟨k3, h⟩ := h
    refine gx_ki (gx_rV X (c_X0_at h) (Nat.le_trans (by decide) hd) (Nat.le_trans (by decide) (Nat.mul_le_mul_left 40 hd)) k3 rfl mw_311 mw_163 mw_164 mw_2 mw_165 hyX0_at (As := [.int v5]) (rest := [.int (v3 <<< ((6 : Int32) &&& 31))]) rfl rfl (Nat.le_of_ble_eq_true rfl) dX4_write_28) (fun r5 u4 h => ?_)
    refine gx_ki (gx_rS X (c_X4_sixBits h) (Nat.le_trans (by decide) hd) (Nat.le_trans (by decide) (Nat.mul_le_mul_left 40 hd)) mw_312 mw_313 mw_13 mw_314 hyX4_sixBits (As := [.int r5]) (rest := [.int (v3 <<< ((6 : Int32) &&& 31))]) rfl rfl (Nat.le_of_ble_eq_true rfl) dX4_write_31) (fun r7 u6 h => ?_)
    refine gx_ior X dX4_write_34 ?_
    refine gx_nami (fun x8 ex8 => ?_)
    replace h := h x8 ex8
    refine gx_istore_n X (lv' := [(3, .int x8), (0, .int v0), (1, .ref (ex_ad E v1)), (2, .ref (ex_ad E v2)), (4, .int v4), (5, .int v5)]) dX4_write_35 rfl (by decide) rfl ?_
    obtain ⟨x9, ex9⟩ : ∃ y : Int32, y = v4 + 6 := ⟨_, rfl⟩
    replace h := h x9 ex9
    refine gx_iinc X (v := x9) (lv' := [(4, .int x9), (3, .int x8), (0, .int v0), (1, .ref (ex_ad E v1)), (2, .ref (ex_ad E v2)), (5, .int v5)]) dX4_write_36 (j := 4) rfl (by rw [ex9]; rfl) (by decide) rfl ?_
    refine gx_iload X (j := 0) dX4_write_39 rfl ?_
    refine gx_bipush X (v := 8) dX4_write_41 (by decide) ?_
    refine gx_icmp_lt X (tgt := 57) dX4_write_43 (by decide) (fun c15 => ?_) (fun c15 => ?_)
    · replace h := h.1 c15
      obtain ⟨x10, ex10⟩ : ∃ y : Int32, y = v5 + 1 := ⟨_, rfl⟩
      replace h := h x10 ex10
      refine gx_iinc X (v := x10) (lv' := [(5, .int x10), (4, .int x9), (3, .int x8), (0, .int v0), (1, .ref (ex_ad E v1)), (2, .ref (ex_ad E v2))]) dX4_write_57 (j := 5) rfl (by rw [ex10]; rfl) (by decide) rfl ?_
      refine gx_goto X (tgt := 12) dX4_write_60 (by decide) ?_
      exact gx_sub [3, 4, 5, 2, 1, 0] rfl h
    · replace h := h.2 c15
      obtain ⟨x11, ex11⟩ : ∃ y : Int32, y = x9 + (-8) := ⟨_, rfl⟩
      replace h := h x11 ex11
      refine gx_iinc X (v := x11) (lv' := [(4, .int x11), (3, .int x8), (0, .int v0), (1, .ref (ex_ad E v1)), (2, .ref (ex_ad E v2)), (5, .int v5)]) dX4_write_46 (j := 0) rfl (by rw [ex11]; rfl) (by decide) rfl ?_
      refine gx_aload_n X (j := 4) dX4_write_49 rfl rfl ?_
      refine gx_iload_n X (j := 1) dX4_write_50 rfl rfl ?_
      refine gx_iload X (j := 0) dX4_write_51 rfl ?_
      refine gx_iushr X (v := (x8.toUInt32 >>> (x11.toUInt32 &&& Int32.toUInt32 31)).toInt32) dX4_write_53 rfl ?_
      obtain ⟨k12, h⟩ := h
      refine gx_kv (gx_rV X (c_X0_add h) (Nat.le_trans (by decide) hd) (Nat.le_trans (by decide) (Nat.mul_le_mul_left 40 hd)) k12 rfl mw_325 mw_136 mw_137 mw_2 mw_138 hyX0_add (As := [.int ((x8.toUInt32 >>> (x11.toUInt32 &&& Int32.toUInt32 31)).toInt32)]) (rest := []) rfl rfl (Nat.le_of_ble_eq_true rfl) dX4_write_54) (fun u13 h => ?_)
      obtain ⟨x14, ex14⟩ : ∃ y : Int32, y = v5 + 1 := ⟨_, rfl⟩
      replace h := h x14 ex14
      refine gx_iinc X (v := x14) (lv' := [(5, .int x14), (4, .int x11), (3, .int x8), (0, .int v0), (1, .ref (ex_ad E v1)), (2, .ref (ex_ad E v2))]) dX4_write_57 (j := 5) rfl (by rw [ex14]; rfl) (by decide) rfl ?_
      refine gx_goto X (tgt := 12) dX4_write_60 (by decide) ?_
      exact gx_sub [3, 4, 5, 2, 1, 0] rfl h
theorem su_ : ∀ n, n < 32 → (((nI n).toUInt32 &&& Int32.toUInt32 31).toBitVec % 32).toNat = n := by decide +kernel
theorem sl_ : ∀ n, n < 32 → ((nI n &&& 31).toBitVec.smod 32).toNat = n := by decide +kernel
theorem sh1 : ∀ e, e < 31 → (1 : Int32) <<< (nI e &&& 31) - 1 = nI (2 ^ e - 1) := by decide +kernel
theorem ushr_nat (x : Int32) {k : Nat} (hk : k < 32) : (x.toUInt32 >>> ((nI k).toUInt32 &&& Int32.toUInt32 31)).toInt32.toBitVec.toNat = x.toBitVec.toNat / 2 ^ k := pk_ushr x (nI k) k (su_ k hk)
theorem i32_lt (x : Int32) : x.toBitVec.toNat < 4294967296 := x.toBitVec.isLt
/-- an int's four bytes, the highest first -/
def wB (x : Int32) : List Nat := [x.toBitVec.toNat / 2 ^ 24 % 256, x.toBitVec.toNat / 2 ^ 16 % 256, x.toBitVec.toNat / 2 ^ 8 % 256, x.toBitVec.toNat % 256]
theorem i_X0_addWord {u : gx_S} {o : Nat} {L : List Nat} {x : Int32} {post : gx_S → Prop} (hB : byL u o L) (hL : L.length + 4 ≤ 2000) (h : byU u o (L ++ wB x) post) : S_X0_addWord u o x post := by
  have e24 : (x.toUInt32 >>> ((24 : Int32).toUInt32 &&& Int32.toUInt32 31)).toInt32.toBitVec.toNat = x.toBitVec.toNat / 2 ^ 24 := ushr_nat x (k := 24) (by omega)
  have e16 : (x.toUInt32 >>> ((16 : Int32).toUInt32 &&& Int32.toUInt32 31)).toInt32.toBitVec.toNat = x.toBitVec.toNat / 2 ^ 16 := ushr_nat x (k := 16) (by omega)
  have e8 : (x.toUInt32 >>> ((8 : Int32).toUInt32 &&& Int32.toUInt32 31)).toInt32.toBitVec.toNat = x.toBitVec.toNat / 2 ^ 8 := ushr_nat x (k := 8) (by omega)
  refine ⟨hB.1, i_X0_add hB (by omega) (c := x.toBitVec.toNat / 2 ^ 24 % 256) (Nat.mod_lt _ (by omega)) (by rw [byte_of, e24]) (fun f1 hf1 => ?_)⟩
  have h1 := byL_push hB hf1 (by omega)
  refine i_X0_add h1 (by simp; omega) (c := x.toBitVec.toNat / 2 ^ 16 % 256) (Nat.mod_lt _ (by omega)) (by rw [byte_of, e16]) (fun f2 hf2 => ?_)
  have h2 := byL_push h1 hf2 (by simp; omega)
  refine i_X0_add h2 (by simp; omega) (c := x.toBitVec.toNat / 2 ^ 8 % 256) (Nat.mod_lt _ (by omega)) (by rw [byte_of, e8]) (fun f3 hf3 => ?_)
  have h3 := byL_push h2 hf3 (by simp; omega)
  refine i_X0_add h3 (by simp; omega) (Nat.mod_lt _ (by omega)) (byte_of x) (byU_W (byU_W (byU_W ?_)))
  simpa [wB] using h
def nlet (n : Nat) : Nat := (n * 8 + 5) / 6
def nlen (n : Nat) : Nat := (n + 2) / 3 * 4
theorem i_X4_lettersFor {u : gx_S} {n : Nat} {post : Int32 → gx_S → Prop} (hn : n ≤ 900) (h : post (nI (nlet n)) u) : S_X4_lettersFor u (nI n) post := by
  unfold S_X4_lettersFor
  rw [show (8 : Int32) = nI 8 from rfl, show (5 : Int32) = nI 5 from rfl, show (6 : Int32) = nI 6 from rfl, pk_mul, nI_add, pk_div (by omega) (by omega) (by omega)]
  exact h
theorem nlet_ok (n : Nat) : n * 8 ≤ nlet n * 6 ∧ nlet n * 6 - n * 8 < 6 := by unfold nlet; omega
theorem i_X4_bitsOver {u : gx_S} {n : Nat} {post : Int32 → gx_S → Prop} (hn : n ≤ 900) (h : post (nI (2 ^ (nlet n * 6 - n * 8) - 1)) u) : S_X4_bitsOver u (nI n) post := by
  refine i_X4_lettersFor hn ?_
  have := nlet_ok n
  rw [show (8 : Int32) = nI 8 from rfl, show (6 : Int32) = nI 6 from rfl, pk_mul, pk_mul, pk_sub this.1, sh1 _ (by omega)]
  exact h
def six (c : Nat) : Nat := if isG c then c - 65 else if isS c then c - 97 + 26 else if isD c then c - 48 + 52 else if c = 43 then 62 else if c = 47 then 63 else 999
theorem six_alt (c : Nat) : six c < 64 ∨ six c = 999 := by
  unfold six isG isS isD
  split
  · rename_i q; simp at q; omega
  · split
    · rename_i q; simp at q; omega
    · split
      · rename_i q; simp at q; omega
      · split
        · omega
        · split <;> omega
theorem i_X4_sixBits {u : gx_S} {c : Nat} {post : Int32 → gx_S → Prop} (hc : c < 256 ∨ c = 999) (h : post (cI (six c)) u) : S_X4_sixBits u (cI c) post := by
  unfold six at h
  have sh : ∀ a b, a ≤ c → c - a + b < 256 → c < 256 → cI c - nI a + nI b = cI (c - a + b) := by
    intro a b h1 h2 h3
    rw [cI_lo h3, cI_lo h2, pk_sub h1, nI_add]
  refine i_X6_isGreatLetter ⟨fun q => i_X6_isSmallLetter ⟨fun q2 => i_X6_isDigit ⟨fun q3 => ⟨fun q4 => ⟨fun q5 => ?_, fun q5 => ?_⟩, fun q4 => ?_⟩, fun q3 => ?_⟩ hc, fun q2 => ?_⟩ hc, fun q => ?_⟩ hc
  · rw [b2_0] at q q2 q3
    have n4 : ¬ c = 43 := fun e => q4 ((cI_eq (k := 43) (by omega)).mpr e)
    have n5 : ¬ c = 47 := fun e => q5 ((cI_eq (k := 47) (by omega)).mpr e)
    simp only [q, q2, q3, n4, n5, Bool.false_eq_true, if_false] at h
    exact h
  · rw [b2_0] at q q2 q3
    have n4 : ¬ c = 43 := fun e => q4 ((cI_eq (k := 43) (by omega)).mpr e)
    have n5 : c = 47 := (cI_eq (k := 47) (by omega)).mp q5
    simp only [q, q2, q3, n4, n5, Bool.false_eq_true, if_false, if_true] at h
    exact h
  · rw [b2_0] at q q2 q3
    have n4 : c = 43 := (cI_eq (k := 43) (by omega)).mp q4
    simp only [q, q2, q3, n4, Bool.false_eq_true, if_false, if_true] at h
    exact h
  · rw [b2_0] at q q2
    have q3 := b2_n0 q3
    have hr : 48 ≤ c ∧ c ≤ 57 := by simpa [isD] using q3
    simp only [q, q2, q3, Bool.false_eq_true, if_false, if_true] at h
    rw [show (48 : Int32) = nI 48 from rfl, show (52 : Int32) = nI 52 from rfl, sh 48 52 hr.1 (by omega) (by omega)]
    exact h
  · rw [b2_0] at q
    have q2 := b2_n0 q2
    have hr : 97 ≤ c ∧ c ≤ 122 := by simpa [isS] using q2
    simp only [q, q2, Bool.false_eq_true, if_false, if_true] at h
    rw [show (97 : Int32) = nI 97 from rfl, show (26 : Int32) = nI 26 from rfl, sh 97 26 hr.1 (by omega) (by omega)]
    exact h
  · have q := b2_n0 q
    have hr : 65 ≤ c ∧ c ≤ 90 := by simpa [isG] using q
    simp only [q, if_true] at h
    rw [show (65 : Int32) = nI 65 from rfl, cI_lo (by omega), pk_sub hr.1]
    rw [cI_lo (by omega)] at h
    exact h
def sxF (L : List Nat) : Nat → Nat → Bool
  | 0, _ => true
  | k + 1, i => if six (ch L i) = 999 then false else sxF L k (i + 1)
def eqF (L : List Nat) : Nat → Nat → Bool
  | 0, _ => true
  | k + 1, i => if ch L i = 61 then eqF L k (i + 1) else false
def aofE (n : Nat) (L : List Nat) : Bool := if n = 0 then true else decide (six (ch L (nlet n - 1)) % 2 ^ (nlet n * 6 - n * 8) = 0)
/-- the row L is base 64 of n bytes -/
def aof (n : Nat) (L : List Nat) : Bool := if L.length = nlen n then (if sxF L (nlet n) 0 = true then (if eqF L (nlen n - nlet n) (nlet n) = true then aofE n L else false) else false) else false
theorem sxF_at {L : List Nat} : ∀ k i, sxF L k i = true → ∀ j, i ≤ j → j < i + k → six (ch L j) < 64
  | 0, i, _, j, h1, h2 => by omega
  | k + 1, i, h, j, h1, h2 => by
    unfold sxF at h
    split at h
    · cases h
    · rename_i q
      by_cases e : j = i
      · subst e
        rcases six_alt (ch L j) with a | a
        · exact a
        · exact absurd a q
      · exact sxF_at k (i + 1) h j (by omega) (by omega)
def S_X4_areOf (u : gx_S) (v0 : Int32) (v1 : Nat) (post : Int32 → gx_S → Prop) : Prop := ∃ (L : List Nat) (n : Nat), n ≤ 900 ∧ v0 = nI n ∧ byL u v1 L ∧ post (b2 (aof n L)) u
theorem lp2_X4_areOf {E : gx_E} (X : gx_X E cX4_areOf 5 RX4 (some .boolean)) (hd : 2 ≤ ex_d E) {post : Int32 → gx_S → Prop} (hQ : ex_Q E = va_Qi post (gx_B (ex_Z E)) (gx_A (ex_Z E))) {v1 n : Nat} {L : List Nat} {u : gx_S} (hn : n ≤ 900) (hL : byL u v1 L) (hs : sxF L (nlet n) 0 = true) :
    ∀ (k i : Nat), nlen n - i = k → i < 2 ^ 29 → post (b2 (if eqF L k i = true then aofE n L else false)) u → J_X4_areOf_57 E (nI n) v1 (nI (nlet n)) (nI (nlen n)) (nI i) u := by
  have hl1 : nlen n ≤ 1300 := by unfold nlen; omega
  have hl2 : nlet n ≤ 1300 := by unfold nlet; omega
  intro k
  induction k with
  | zero =>
    intro i hk hi h
    have hno := nlet_ok n
    rw [eqF, if_pos rfl] at h
    unfold aofE at h
    refine w_X4_areOf_57 X hd hQ ⟨fun _ => ⟨fun z => ?_, fun z => ⟨hL.1, ?_⟩⟩, fun q => absurd (nI_le (by omega) (by omega)) q⟩
    · rw [if_pos ((nI_eq (b := 0) (by omega) (by omega)).mp z)] at h; exact h
    · have hn0 : ¬ n = 0 := fun e => z (by rw [e]; rfl)
      have hp : 1 ≤ nlet n := by unfold nlet; omega
      rw [if_neg hn0] at h
      have hsx := sxF_at _ _ hs (nlet n - 1) (by omega) (by omega)
      rw [show (1 : Int32) = nI 1 from rfl, pk_sub hp]
      refine i_X0_at hL (by omega) (i_X4_sixBits (ch_alt hL.2.2.2.2.2.1 _) (i_X4_bitsOver hn ?_))
      have hpw : 2 ^ (nlet n * 6 - n * 8) ≤ 2 ^ 6 := Nat.pow_le_pow_right (by omega) (by omega)
      rw [cI_lo (by omega), pk_andN (by omega) (nlet n * 6 - n * 8) (pk_tn (by omega))]
      have hm := Nat.mod_le (six (ch L (nlet n - 1))) (2 ^ (nlet n * 6 - n * 8))
      refine ⟨fun z2 => ?_, fun z2 => ?_⟩
      · rw [decide_eq_false (fun e => z2 (by rw [e]; rfl))] at h; exact h
      · rw [decide_eq_true ((nI_eq (b := 0) (by omega) (by omega)).mp z2)] at h; exact h
  | succ k ih =>
    intro i hk hi h
    rw [eqF] at h
    refine w_X4_areOf_57 X hd hQ ⟨fun z => absurd z (nI_ge (by omega) (by omega)), fun _ => ⟨hL.1, i_X0_at hL (by omega) ⟨fun z => ?_, fun z => ?_⟩⟩⟩
    · rintro x13 rfl
      rw [nI_1]
      rw [if_pos ((cI_eq (k := 61) (by omega)).mp z)] at h
      exact ih (i + 1) (by omega) (by omega) h
    · rw [if_neg (fun e => z ((cI_eq (k := 61) (by omega)).mpr e)), if_neg (by decide)] at h
      exact h
theorem lp1_X4_areOf {E : gx_E} (X : gx_X E cX4_areOf 5 RX4 (some .boolean)) (hd : 2 ≤ ex_d E) {post : Int32 → gx_S → Prop} (hQ : ex_Q E = va_Qi post (gx_B (ex_Z E)) (gx_A (ex_Z E))) {v1 n : Nat} {L : List Nat} {u : gx_S} (hn : n ≤ 900) (hL : byL u v1 L) :
    ∀ (k i : Nat), nlet n - i = k → i ≤ nlet n → sxF L (nlet n) 0 = sxF L k i → post (b2 (if sxF L (nlet n) 0 = true then (if eqF L (nlen n - nlet n) (nlet n) = true then aofE n L else false) else false)) u → J_X4_areOf_26 E (nI n) v1 (nI (nlet n)) (nI (nlen n)) (nI i) u := by
  have hl2 : nlet n ≤ 1300 := by unfold nlet; omega
  intro k
  induction k with
  | zero =>
    intro i hk hi he h
    rw [sxF] at he
    rw [if_pos he] at h
    refine w_X4_areOf_26 X hd hQ ⟨fun _ => lp2_X4_areOf X hd hQ hn hL he _ _ rfl (by omega) h, fun q => absurd (nI_le (by omega) (by omega)) q⟩
  | succ k ih =>
    intro i hk hi he h
    rw [sxF] at he
    have ha := six_alt (ch L i)
    refine w_X4_areOf_26 X hd hQ ⟨fun z => absurd z (nI_ge (by omega) (by omega)), fun _ => ⟨hL.1, i_X0_at hL (by omega) (i_X4_sixBits (ch_alt hL.2.2.2.2.2.1 _) ⟨fun z => ?_, fun z => ?_⟩)⟩⟩
    · rintro x6 rfl
      rw [nI_1]
      rw [if_neg (fun e => z (by rw [e]; rfl))] at he
      exact ih (i + 1) (by omega) (by omega) he h
    · have h9 : six (ch L i) = 999 := by
        rcases ha with a | a
        · rw [cI_lo (by omega)] at z; exact absurd z.symm (nI_neg2 (by omega))
        · exact a
      rw [if_pos h9] at he
      rw [he, if_neg (by decide)] at h
      exact h
theorem w_X4_areOf {E : gx_E} (X : gx_X E cX4_areOf 5 RX4 (some .boolean)) (hd : 2 ≤ ex_d E) {post : Int32 → gx_S → Prop} (hQ : ex_Q E = va_Qi post (gx_B (ex_Z E)) (gx_A (ex_Z E))) {u : gx_S} {v0 : Int32} {v1 : Nat} (h : S_X4_areOf u v0 v1 post) : gx_Wc E 5 0 [(0, .int v0), (1, .ref (ex_ad E v1))] [] u := by
  obtain ⟨L, n, hn, rfl, hL, h⟩ := h
  have hL2 := hL.2.2.2.2.1
  have hl1 : nlen n ≤ 1300 := by unfold nlen; omega
  unfold aof at h
  refine w_X4_areOf_0 X hd hQ (i_X4_lettersFor hn ?_)
  intro x3 e3
  rw [show (2 : Int32) = nI 2 from rfl, show (3 : Int32) = nI 3 from rfl, show (4 : Int32) = nI 4 from rfl, nI_add, pk_div (by omega) (by omega) (by omega), pk_mul] at e3
  subst e3
  refine ⟨hL.1, i_X0_size hL ⟨fun z => ?_, fun z => ?_⟩⟩
  · rw [if_pos (show L.length = nlen n from (nI_eq (by omega) (by omega)).mp z)] at h
    exact lp1_X4_areOf X hd hQ hn hL (nlet n) 0 (by omega) (by omega) rfl h
  · rw [if_neg (fun e => z (by rw [e]; rfl))] at h
    exact h
theorem c_X4_areOf {l : Launch} {Z : gx_Z} {u : gx_S} {v0 : Int32} {v1 : Nat} {post : Int32 → gx_S → Prop} (h : S_X4_areOf u v0 v1 post) : Met l yX4_areOf (Cond.code yX4_areOf cX4_areOf 5 (some .boolean) :: gx_TB) (gx_rm 2) (gx_Pre Z u [.int v0, .ref (Z.2.1 v1)]) (va_Qi post (gx_B Z) (gx_A Z)) 0 0 (gx_A Z) := by
  refine gx_met (by decide +kernel) (Nat.le_of_ble_eq_true rfl) ?_
  intro E X hZ hQ hD hL
  subst hZ
  exact w_X4_areOf X (Nat.le_of_eq hD.symm) hQ h
/-- the bytes of letters: w bits wait, of value b -/
def dcF (L : List Nat) : Nat → Nat → Nat → Nat → List Nat → List Nat
  | 0, _, _, _, O => O
  | k + 1, i, w, b, O => if w + 6 < 8 then dcF L k (i + 1) (w + 6) (b * 64 + six (ch L i)) O else dcF L k (i + 1) (w - 2) ((b * 64 + six (ch L i)) % 2 ^ (w - 2)) (O ++ [(b * 64 + six (ch L i)) / 2 ^ (w - 2)])
theorem m8_ : ∀ w, w < 8 → 2 ≤ w → nI (w + 6) + (-8) = nI (w - 2) := by decide +kernel
def S_X4_write (u : gx_S) (v0 : Int32) (v1 v2 : Nat) (post : gx_S → Prop) : Prop := ∃ (L O : List Nat) (n : Nat), n ≤ 900 ∧ v0 = nI n ∧ byL u v1 L ∧ byL u v2 O ∧ v1 ≠ v2 ∧ gx_r u v1 0 ≠ gx_r u v2 0 ∧ sxF L (nlet n) 0 = true ∧ byU u v2 (dcF L (nlet n) 0 0 0 []) post
theorem or64 (A s : Nat) (hs : s < 64) : (A * 2 ^ 6 % 2 ^ 32 ||| s) = (A % 2 ^ 26) * 64 + s := by
  have e : A * 2 ^ 6 % 2 ^ 32 = 2 ^ 6 * (A % 2 ^ 26) := by omega
  rw [e, ← Nat.two_pow_add_eq_or_of_lt (by omega)]
  omega
theorem bits6 (x : Int32) {s : Nat} (hs : s < 64) : ((x <<< ((6 : Int32) &&& 31)) ||| nI s).toBitVec.toNat = (x.toBitVec.toNat % 2 ^ 26) * 64 + s := by
  show ((x <<< ((6 : Int32) &&& 31)).toBitVec ||| (nI s).toBitVec).toNat = _
  rw [BitVec.toNat_or, pk_shl x ((6 : Int32) &&& 31) 6 (by decide), pk_tn (by omega)]
  exact or64 _ s hs
theorem mod6 (A b w s : Nat) (hw : w < 8) (hb : A % 2 ^ w = b) (hs : s < 64) : ((A % 2 ^ 26) * 64 + s) % 2 ^ (w + 6) = b * 64 + s := by
  subst hb
  have h : w = 0 ∨ w = 1 ∨ w = 2 ∨ w = 3 ∨ w = 4 ∨ w = 5 ∨ w = 6 ∨ w = 7 := by omega
  rcases h with rfl | rfl | rfl | rfl | rfl | rfl | rfl | rfl <;> simp only [Nat.reducePow, Nat.reduceAdd] <;> omega
theorem div6 (N x w : Nat) (hw : 2 ≤ w) (hw2 : w < 8) (h : N % 2 ^ (w + 6) = x) : N / 2 ^ (w - 2) % 256 = x / 2 ^ (w - 2) ∧ N % 2 ^ (w - 2) = x % 2 ^ (w - 2) := by
  subst h
  have h : w = 2 ∨ w = 3 ∨ w = 4 ∨ w = 5 ∨ w = 6 ∨ w = 7 := by omega
  rcases h with rfl | rfl | rfl | rfl | rfl | rfl <;> simp only [Nat.reducePow, Nat.reduceAdd, Nat.reduceSub] <;> omega
theorem lp_X4_write {E : gx_E} (X : gx_X E cX4_write 6 RX4 none) (hd : 2 ≤ ex_d E) {post : gx_S → Prop} (hQ : ex_Q E = va_Qv post (gx_B (ex_Z E)) (gx_A (ex_Z E))) {v1 v2 n : Nat} {L : List Nat} (hn : n ≤ 900) (hs : sxF L (nlet n) 0 = true) (hne : v1 ≠ v2) :
    ∀ (k i w b : Nat) (x : Int32) (O : List Nat) (u : gx_S), nlet n - i = k → i ≤ nlet n → w < 8 → x.toBitVec.toNat % 2 ^ w = b → O.length ≤ i → byL u v1 L → byL u v2 O → gx_r u v1 0 ≠ gx_r u v2 0 → byU u v2 (dcF L k i w b O) post → J_X4_write_12 E (nI n) v1 v2 x (nI w) (nI i) u := by
  have hl2 : nlet n ≤ 1300 := by unfold nlet; omega
  intro k
  induction k with
  | zero =>
    intro i w b x O u hk hi hw hb hO hL hOb hr h
    refine w_X4_write_12 X hd hQ (i_X4_lettersFor hn ⟨fun _ => byU_self hOb h, fun q => absurd (nI_le (by omega) (by omega)) q⟩)
  | succ k ih =>
    intro i w b x O u hk hi hw hb hO hL hOb hr h
    have hsx := sxF_at _ _ hs i (by omega) (by omega)
    have hx8 := bits6 x hsx
    have hm := mod6 x.toBitVec.toNat b w (six (ch L i)) hw hb hsx
    refine w_X4_write_12 X hd hQ (i_X4_lettersFor hn ⟨fun z => absurd z (nI_ge (by omega) (by omega)), fun _ => ⟨hL.1, i_X0_at hL (by omega) (i_X4_sixBits (ch_alt hL.2.2.2.2.2.1 _) ?_)⟩⟩)
    rw [cI_lo (by omega)]
    intro x8 e8 x9 e9
    rw [← e8] at hx8
    rw [show (6 : Int32) = nI 6 from rfl, nI_add] at e9
    subst e9
    rw [← hx8] at hm
    rw [dcF] at h
    refine ⟨fun z => ?_, fun z => ?_⟩
    · rintro x10 rfl
      rw [nI_1]
      rw [show (8 : Int32) = nI 8 from rfl, nI_ltI (by omega) (by omega)] at z
      rw [if_pos z] at h
      exact ih (i + 1) (w + 6) _ x8 O u (by omega) (by omega) z hm (by omega) hL hOb hr h
    · rintro x11 e11
      rw [show (8 : Int32) = nI 8 from rfl, nI_ltI (by omega) (by omega)] at z
      rw [if_neg z] at h
      rw [m8_ w hw (by omega)] at e11
      subst e11
      obtain ⟨d1, d2⟩ := div6 x8.toBitVec.toNat _ w (by omega) hw hm
      have hc : (b * 64 + six (ch L i)) / 2 ^ (w - 2) < 256 := by rw [← d1]; exact Nat.mod_lt _ (by omega)
      refine ⟨hOb.1, i_X0_add hOb (by omega) hc (by rw [byte_of, ushr_nat x8 (by omega), d1]) (fun f hf => ?_)⟩
      rintro x14 rfl
      rw [nI_1]
      exact ih (i + 1) (w - 2) _ x8 _ _ (by omega) (by omega) (by omega) d2 (by rw [len_push]; omega) (byL_ne hL hne hr) (byL_push hOb hf (by omega)) hr (byU_W h)
theorem w_X4_write {E : gx_E} (X : gx_X E cX4_write 6 RX4 none) (hd : 2 ≤ ex_d E) {post : gx_S → Prop} (hQ : ex_Q E = va_Qv post (gx_B (ex_Z E)) (gx_A (ex_Z E))) {u : gx_S} {v0 : Int32} {v1 v2 : Nat} (h : S_X4_write u v0 v1 v2 post) : gx_Wc E 6 0 [(0, .int v0), (1, .ref (ex_ad E v1)), (2, .ref (ex_ad E v2))] [] u := by
  obtain ⟨L, O, n, hn, rfl, hL, hO, hne, hr, hs, h⟩ := h
  refine w_X4_write_0 X hd hQ ⟨hO.1, i_X0_clear hO (fun f hf => ?_)⟩
  exact lp_X4_write X hd hQ hn hs hne (nlet n) 0 0 0 0 [] _ (by omega) (by omega) (by omega) (by decide) (by simp) (byL_ne hL hne hr) (byL_W hO hf (by simp)) hr (byU_W h)
theorem c_X4_write {l : Launch} {Z : gx_Z} {u : gx_S} {v0 : Int32} {v1 : Nat} {v2 : Nat} {post : gx_S → Prop} (h : S_X4_write u v0 v1 v2 post) : Met l yX4_write (Cond.code yX4_write cX4_write 6 none :: gx_TB) (gx_rm 2) (gx_Pre Z u [.int v0, .ref (Z.2.1 v1), .ref (Z.2.1 v2)]) (va_Qv post (gx_B Z) (gx_A Z)) 0 0 (gx_A Z) := by
  refine gx_met (by decide +kernel) (Nat.le_of_ble_eq_true rfl) ?_
  intro E X hZ hQ hD hL
  subst hZ
  exact w_X4_write X (Nat.le_of_eq hD.symm) hQ h

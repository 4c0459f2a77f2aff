-- PlainSeal$Bytes.become(LPlainSeal$Bytes;)V
theorem dX0_become_0 : decode cX0_become 0 = .ok (.aload_n 0, 1) := by decide +kernel
theorem dX0_become_1 : decode cX0_become 1 = .ok (.invokevirtual 27, 3) := by decide +kernel
theorem dX0_become_4 : decode cX0_become 4 = .ok (.aload_n 0, 1) := by decide +kernel
theorem dX0_become_5 : decode cX0_become 5 = .ok (.aload_n 1, 1) := by decide +kernel
theorem dX0_become_6 : decode cX0_become 6 = .ok (.iconst 0, 1) := by decide +kernel
theorem dX0_become_7 : decode cX0_become 7 = .ok (.aload_n 1, 1) := by decide +kernel
theorem dX0_become_8 : decode cX0_become 8 = .ok (.getfield 15, 3) := by decide +kernel
theorem dX0_become_11 : decode cX0_become 11 = .ok (.invokevirtual 30, 3) := by decide +kernel
theorem dX0_become_14 : decode cX0_become 14 = .ok (.return_, 1) := by decide +kernel
theorem hyX0_become : yX0_become.cls ≠ "java/lang/invoke/MethodHandle" ∧ yX0_become.cls ≠ "java/lang/invoke/VarHandle" ∧ (parseMethodDescriptor yX0_become.desc).map (fun d => d.parameters.length) = some 1 := by decide +kernel
def S_X0_become (u : gx_S) (v0 : Nat) (v1 : Nat) (post : gx_S → Prop) : Prop := (gx_isO v0 0 ∧ S_X0_clear u v0 (fun (u2 : gx_S) => (gx_isO v1 0 ∧ (S_X0_addPart u2 v0 v1 (0 : Int32) (gx_i u2 v1 1) (fun (u4 : gx_S) => post u4)))))
set_option maxHeartbeats 4000000 in
set_option maxRecDepth 100000 in
theorem w_X0_become {E : gx_E} (X : gx_X E cX0_become 2 RX0 none) (hd : 2 ≤ ex_d E) {post : gx_S → Prop} (hQ : ex_Q E = va_Qv post (gx_B (ex_Z E)) (gx_A (ex_Z E))) {u : gx_S} {v0 : Nat} {v1 : Nat} (h : S_X0_become u v0 v1 post) : gx_Wc E 2 0 [(0, .ref (ex_ad E v0)), (1, .ref (ex_ad E v1))] [] u := by
  unfold S_X0_become at h
  refine gx_aload_n X (j := 0) dX0_become_0 rfl rfl ?_
  obtain ⟨k1, h⟩ := h
  refine gx_kv (gx_rV X (c_X0_clear h) (Nat.le_trans (by decide) hd) (Nat.le_trans (by decide) (Nat.mul_le_mul_left 40 hd)) k1 rfl mw_191 mw_192 mw_193 mw_2 mw_194 hyX0_clear (As := []) (rest := []) rfl rfl (Nat.le_of_ble_eq_true rfl) dX0_become_1) (fun u2 h => ?_)
  refine gx_aload_n X (j := 0) dX0_become_4 rfl rfl ?_
  refine gx_aload_n X (j := 1) dX0_become_5 rfl rfl ?_
  refine gx_iconst X (v := 0) dX0_become_6 (by decide) ?_
  refine gx_aload_n X (j := 1) dX0_become_7 rfl rfl ?_
  obtain ⟨k3, h⟩ := h
  refine gx_get X k3 rfl iwX0 1 (by decide) mw_31 (v := .int (gx_i u2 v1 1)) rfl dX0_become_8 ?_
  refine gx_kv (gx_rV X (c_X0_addPart h) (Nat.le_trans (by decide) hd) (Nat.le_trans (by decide) (Nat.mul_le_mul_left 40 hd)) k1 rfl mw_195 mw_196 mw_197 mw_2 mw_198 hyX0_addPart (As := [.ref (ex_ad E v1), .int (0 : Int32), .int (gx_i u2 v1 1)]) (rest := []) rfl rfl (Nat.le_of_ble_eq_true rfl) dX0_become_11) (fun u4 h => ?_)
  exact gx_vret X hQ h dX0_become_14
theorem c_X0_become {l : Launch} {Z : gx_Z} {u : gx_S} {v0 : Nat} {v1 : Nat} {post : gx_S → Prop} (h : S_X0_become u v0 v1 post) : Met l yX0_become (Cond.code yX0_become cX0_become 2 none :: gx_TB) (gx_rm 2) (gx_Pre Z u [.ref (Z.2.1 v0), .ref (Z.2.1 v1)]) (va_Qv post (gx_B Z) (gx_A Z)) 0 0 (gx_A Z) := by
  refine gx_met (by decide +kernel) (Nat.le_of_ble_eq_true rfl) ?_
  intro E X hZ hQ hD hL
  subst hZ
  exact w_X0_become X (Nat.le_of_eq hD.symm) hQ h
-- PlainSeal$Mail.isMissing()Z
theorem dX1_isMissing_0 : decode cX1_isMissing 0 = .ok (.aload_n 0, 1) := by decide +kernel
theorem dX1_isMissing_1 : decode cX1_isMissing 1 = .ok (.getfield 22, 3) := by decide +kernel
theorem dX1_isMissing_4 : decode cX1_isMissing 4 = .ok (.ifCond .ne 7, 3) := by decide +kernel
theorem dX1_isMissing_7 : decode cX1_isMissing 7 = .ok (.iconst 1, 1) := by decide +kernel
theorem dX1_isMissing_8 : decode cX1_isMissing 8 = .ok (.goto 4, 3) := by decide +kernel
theorem dX1_isMissing_11 : decode cX1_isMissing 11 = .ok (.iconst 0, 1) := by decide +kernel
theorem dX1_isMissing_12 : decode cX1_isMissing 12 = .ok (.ireturn, 1) := by decide +kernel
theorem hyX1_isMissing : yX1_isMissing.cls ≠ "java/lang/invoke/MethodHandle" ∧ yX1_isMissing.cls ≠ "java/lang/invoke/VarHandle" ∧ (parseMethodDescriptor yX1_isMissing.desc).map (fun d => d.parameters.length) = some 0 := by decide +kernel
def S_X1_isMissing (u : gx_S) (v0 : Nat) (post : Int32 → gx_S → Prop) : Prop := (gx_isO v0 1 ∧ ((¬ (gx_i u v0 2) = 0 → post (0 : Int32) u) ∧ ((gx_i u v0 2) = 0 → post (1 : Int32) u)))
set_option maxHeartbeats 4000000 in
set_option maxRecDepth 100000 in
theorem w_X1_isMissing {E : gx_E} (X : gx_X E cX1_isMissing 1 RX1 (some .boolean)) (hd : 0 ≤ ex_d E) {post : Int32 → gx_S → Prop} (hQ : ex_Q E = va_Qi post (gx_B (ex_Z E)) (gx_A (ex_Z E))) {u : gx_S} {v0 : Nat} (h : S_X1_isMissing u v0 post) : gx_Wc E 1 0 [(0, .ref (ex_ad E v0))] [] u := by
  unfold S_X1_isMissing at h
  refine gx_aload_n X (j := 0) dX1_isMissing_0 rfl rfl ?_
  obtain ⟨k1, h⟩ := h
  refine gx_get X k1 rfl iwX1 2 (by decide) mw_48 (v := .int (gx_i u v0 2)) rfl dX1_isMissing_1 ?_
  refine gx_if_ne X (tgt := 11) dX1_isMissing_4 (by decide) (fun c2 => ?_) (fun c2 => ?_)
  · replace h := h.1 c2
    refine gx_iconst X (v := 0) dX1_isMissing_11 (by decide) ?_
    exact gx_zret X hQ rfl h dX1_isMissing_12
  · replace h := h.2 c2
    refine gx_iconst X (v := 1) dX1_isMissing_7 (by decide) ?_
    refine gx_goto X (tgt := 12) dX1_isMissing_8 (by decide) ?_
    exact gx_zret X hQ rfl h dX1_isMissing_12
theorem c_X1_isMissing {l : Launch} {Z : gx_Z} {u : gx_S} {v0 : Nat} {post : Int32 → gx_S → Prop} (h : S_X1_isMissing u v0 post) : Met l yX1_isMissing (Cond.code yX1_isMissing cX1_isMissing 1 (some .boolean) :: gx_TB) (gx_rm 0) (gx_Pre Z u [.ref (Z.2.1 v0)]) (va_Qi post (gx_B Z) (gx_A Z)) 0 0 (gx_A Z) := by
  refine gx_met (by decide +kernel) (Nat.le_of_ble_eq_true rfl) ?_
  intro E X hZ hQ hD hL
  subst hZ
  exact w_X1_isMissing X (Nat.le_of_eq hD.symm) hQ h
-- PlainSeal$Mail.hasField(I)Z
theorem dX1_hasField_0 : decode cX1_hasField 0 = .ok (.iload_n 1, 1) := by decide +kernel
theorem dX1_hasField_1 : decode cX1_hasField 1 = .ok (.ifCond .lt 15, 3) := by decide +kernel
theorem dX1_hasField_4 : decode cX1_hasField 4 = .ok (.iload_n 1, 1) := by decide +kernel
theorem dX1_hasField_5 : decode cX1_hasField 5 = .ok (.aload_n 0, 1) := by decide +kernel
theorem dX1_hasField_6 : decode cX1_hasField 6 = .ok (.getfield 22, 3) := by decide +kernel
theorem dX1_hasField_9 : decode cX1_hasField 9 = .ok (.if_icmp .ge 7, 3) := by decide +kernel
theorem dX1_hasField_12 : decode cX1_hasField 12 = .ok (.iconst 1, 1) := by decide +kernel
theorem dX1_hasField_13 : decode cX1_hasField 13 = .ok (.goto 4, 3) := by decide +kernel
theorem dX1_hasField_16 : decode cX1_hasField 16 = .ok (.iconst 0, 1) := by decide +kernel
theorem dX1_hasField_17 : decode cX1_hasField 17 = .ok (.ireturn, 1) := by decide +kernel
theorem hyX1_hasField : yX1_hasField.cls ≠ "java/lang/invoke/MethodHandle" ∧ yX1_hasField.cls ≠ "java/lang/invoke/VarHandle" ∧ (parseMethodDescriptor yX1_hasField.desc).map (fun d => d.parameters.length) = some 1 := by decide +kernel
def S_X1_hasField (u : gx_S) (v0 : Nat) (v1 : Int32) (post : Int32 → gx_S → Prop) : Prop := ((v1 < 0 → post (0 : Int32) u) ∧ (¬ v1 < 0 → (gx_isO v0 1 ∧ (((gx_i u v0 2) ≤ v1 → post (0 : Int32) u) ∧ (¬ (gx_i u v0 2) ≤ v1 → post (1 : Int32) u)))))
set_option maxHeartbeats 4000000 in
set_option maxRecDepth 100000 in
theorem w_X1_hasField {E : gx_E} (X : gx_X E cX1_hasField 2 RX1 (some .boolean)) (hd : 0 ≤ ex_d E) {post : Int32 → gx_S → Prop} (hQ : ex_Q E = va_Qi post (gx_B (ex_Z E)) (gx_A (ex_Z E))) {u : gx_S} {v0 : Nat} {v1 : Int32} (h : S_X1_hasField u v0 v1 post) : gx_Wc E 2 0 [(0, .ref (ex_ad E v0)), (1, .int v1)] [] u := by
  unfold S_X1_hasField at h
  refine gx_iload_n X (j := 1) dX1_hasField_0 rfl rfl ?_
  refine gx_if_lt X (tgt := 16) dX1_hasField_1 (by decide) (fun c3 => ?_) (fun c3 => ?_)
  · replace h := h.1 c3
    refine gx_iconst X (v := 0) dX1_hasField_16 (by decide) ?_
    exact gx_zret X hQ rfl h dX1_hasField_17
  · replace h := h.2 c3
    refine gx_iload_n X (j := 1) dX1_hasField_4 rfl rfl ?_
    refine gx_aload_n X (j := 0) dX1_hasField_5 rfl rfl ?_
    obtain ⟨k1, h⟩ := h
    refine gx_get X k1 rfl iwX1 2 (by decide) mw_48 (v := .int (gx_i u v0 2)) rfl dX1_hasField_6 ?_
    refine gx_icmp_ge X (tgt := 16) dX1_hasField_9 (by decide) (fun c2 => ?_) (fun c2 => ?_)
    · replace h := h.1 c2
      refine gx_iconst X (v := 0) dX1_hasField_16 (by decide) ?_
      exact gx_zret X hQ rfl h dX1_hasField_17
    · replace h := h.2 c2
      refine gx_iconst X (v := 1) dX1_hasField_12 (by decide) ?_
      refine gx_goto X (tgt := 17) dX1_hasField_13 (by decide) ?_
      exact gx_zret X hQ rfl h dX1_hasField_17
theorem c_X1_hasField {l : Launch} {Z : gx_Z} {u : gx_S} {v0 : Nat} {v1 : Int32} {post : Int32 → gx_S → Prop} (h : S_X1_hasField u v0 v1 post) : Met l yX1_hasField (Cond.code yX1_hasField cX1_hasField 2 (some .boolean) :: gx_TB) (gx_rm 0) (gx_Pre Z u [.ref (Z.2.1 v0), .int v1]) (va_Qi post (gx_B Z) (gx_A Z)) 0 0 (gx_A Z) := by
  refine gx_met (by decide +kernel) (Nat.le_of_ble_eq_true rfl) ?_
  intro E X hZ hQ hD hL
  subst hZ
  exact w_X1_hasField X (Nat.le_of_eq hD.symm) hQ h
-- PlainSeal$Mail.isOfName(I)Z
theorem dX1_isOfName_0 : decode cX1_isOfName 0 = .ok (.iload_n 0, 1) := by decide +kernel
theorem dX1_isOfName_1 : decode cX1_isOfName 1 = .ok (.invokestatic 57, 3) := by decide +kernel
theorem dX1_isOfName_4 : decode cX1_isOfName 4 = .ok (.ifCond .ne 23, 3) := by decide +kernel
theorem dX1_isOfName_7 : decode cX1_isOfName 7 = .ok (.iload_n 0, 1) := by decide +kernel
theorem dX1_isOfName_8 : decode cX1_isOfName 8 = .ok (.invokestatic 60, 3) := by decide +kernel
theorem dX1_isOfName_11 : decode cX1_isOfName 11 = .ok (.ifCond .ne 16, 3) := by decide +kernel
theorem dX1_isOfName_14 : decode cX1_isOfName 14 = .ok (.iload_n 0, 1) := by decide +kernel
theorem dX1_isOfName_15 : decode cX1_isOfName 15 = .ok (.invokestatic 63, 3) := by decide +kernel
theorem dX1_isOfName_18 : decode cX1_isOfName 18 = .ok (.ifCond .ne 9, 3) := by decide +kernel
theorem dX1_isOfName_21 : decode cX1_isOfName 21 = .ok (.iload_n 0, 1) := by decide +kernel
theorem dX1_isOfName_22 : decode cX1_isOfName 22 = .ok (.bipush 45, 2) := by decide +kernel
theorem dX1_isOfName_24 : decode cX1_isOfName 24 = .ok (.if_icmp .ne 7, 3) := by decide +kernel
theorem dX1_isOfName_27 : decode cX1_isOfName 27 = .ok (.iconst 1, 1) := by decide +kernel
theorem dX1_isOfName_28 : decode cX1_isOfName 28 = .ok (.goto 4, 3) := by decide +kernel
theorem dX1_isOfName_31 : decode cX1_isOfName 31 = .ok (.iconst 0, 1) := by decide +kernel
theorem dX1_isOfName_32 : decode cX1_isOfName 32 = .ok (.ireturn, 1) := by decide +kernel
theorem hyX1_isOfName : yX1_isOfName.cls ≠ "java/lang/invoke/MethodHandle" ∧ yX1_isOfName.cls ≠ "java/lang/invoke/VarHandle" ∧ (parseMethodDescriptor yX1_isOfName.desc).map (fun d => d.parameters.length) = some 1 := by decide +kernel
def S_X1_isOfName (u : gx_S) (v0 : Int32) (post : Int32 → gx_S → Prop) : Prop := (S_X6_isSmallLetter u v0 (fun (r2 : Int32) (u1 : gx_S) => ((¬ r2 = 0 → post (1 : Int32) u1) ∧ (r2 = 0 → (S_X6_isGreatLetter u1 v0 (fun (r4 : Int32) (u3 : gx_S) => ((¬ r4 = 0 → post (1 : Int32) u3) ∧ (r4 = 0 → (S_X6_isDigit u3 v0 (fun (r6 : Int32) (u5 : gx_S) => ((¬ r6 = 0 → post (1 : Int32) u5) ∧ (r6 = 0 → ((¬ v0 = (45 : Int32) → post (0 : Int32) u5) ∧ (v0 = (45 : Int32) → post (1 : Int32) u5))))))))))))))
set_option maxHeartbeats 4000000 in
set_option maxRecDepth 100000 in
theorem w_X1_isOfName {E : gx_E} (X : gx_X E cX1_isOfName 1 RX1 (some .boolean)) (hd : 1 ≤ ex_d E) {post : Int32 → gx_S → Prop} (hQ : ex_Q E = va_Qi post (gx_B (ex_Z E)) (gx_A (ex_Z E))) {u : gx_S} {v0 : Int32} (h : S_X1_isOfName u v0 post) : gx_Wc E 1 0 [(0, .int v0)] [] u := by
  unfold S_X1_isOfName at h
  refine gx_iload_n X (j := 0) dX1_isOfName_0 rfl rfl ?_
  refine gx_ki (gx_rSN X (c_X6_isSmallLetter h) (Nat.le_trans (by decide) hd) (Nat.le_trans (by decide) (Nat.mul_le_mul_left 40 hd)) mn_0 mw_173 mw_1 mw_174 hyX6_isSmallLetter (As := [.int v0]) (rest := []) rfl rfl (Nat.le_of_ble_eq_true rfl) dX1_isOfName_1) (fun r2 u1 h => ?_)
  refine gx_if_ne X (tgt := 27) dX1_isOfName_4 (by decide) (fun c10 => ?_) (fun c10 => ?_)
  · replace h := h.1 c10
    refine gx_iconst X (v := 1) dX1_isOfName_27 (by decide) ?_
    refine gx_goto X (tgt := 32) dX1_isOfName_28 (by decide) ?_
    exact gx_zret X hQ rfl h dX1_isOfName_32
  · replace h := h.2 c10
    refine gx_iload_n X (j := 0) dX1_isOfName_7 rfl rfl ?_
    refine gx_ki (gx_rSN X (c_X6_isGreatLetter h) (Nat.le_trans (by decide) hd) (Nat.le_trans (by decide) (Nat.mul_le_mul_left 40 hd)) mn_1 mw_176 mw_1 mw_177 hyX6_isGreatLetter (As := [.int v0]) (rest := []) rfl rfl (Nat.le_of_ble_eq_true rfl) dX1_isOfName_8) (fun r4 u3 h => ?_)
    refine gx_if_ne X (tgt := 27) dX1_isOfName_11 (by decide) (fun c9 => ?_) (fun c9 => ?_)
    · replace h := h.1 c9
      refine gx_iconst X (v := 1) dX1_isOfName_27 (by decide) ?_
      refine gx_goto X (tgt := 32) dX1_isOfName_28 (by decide) ?_
      exact gx_zret X hQ rfl h dX1_isOfName_32
    · replace h := h.2 c9
      refine gx_iload_n X (j := 0) dX1_isOfName_14 rfl rfl ?_
      refine gx_ki (gx_rSN X (c_X6_isDigit h) (Nat.le_trans (by decide) hd) (Nat.le_trans (by decide) (Nat.mul_le_mul_left 40 hd)) mn_2 mw_179 mw_1 mw_180 hyX6_isDigit (As := [.int v0]) (rest := []) rfl rfl (Nat.le_of_ble_eq_true rfl) dX1_isOfName_15) (fun r6 u5 h => ?_)
      refine gx_if_ne X (tgt := 27) dX1_isOfName_18 (by decide) (fun c8 => ?_) (fun c8 => ?_)
      · replace h := h.1 c8
        refine gx_iconst X (v := 1) dX1_isOfName_27 (by decide) ?_
        refine gx_goto X (tgt := 32) dX1_isOfName_28 (by decide) ?_
        exact gx_zret X hQ rfl h dX1_isOfName_32
      · replace h := h.2 c8
        refine gx_iload_n X (j := 0) dX1_isOfName_21 rfl rfl ?_
        refine gx_bipush X (v := 45) dX1_isOfName_22 (by decide) ?_
        refine gx_icmp_ne X (tgt := 31) dX1_isOfName_24 (by decide) (fun c7 => ?_) (fun c7 => ?_)
        · replace h := h.1 c7
          refine gx_iconst X (v := 0) dX1_isOfName_31 (by decide) ?_
          exact gx_zret X hQ rfl h dX1_isOfName_32
        · replace h := h.2 c7
          refine gx_iconst X (v := 1) dX1_isOfName_27 (by decide) ?_
          refine gx_goto X (tgt := 32) dX1_isOfName_28 (by decide) ?_
          exact gx_zret X hQ rfl h dX1_isOfName_32
theorem c_X1_isOfName {l : Launch} {Z : gx_Z} {u : gx_S} {v0 : Int32} {post : Int32 → gx_S → Prop} (h : S_X1_isOfName u v0 post) : Met l yX1_isOfName (Cond.code yX1_isOfName cX1_isOfName 1 (some .boolean) :: gx_TB) (gx_rm 1) (gx_Pre Z u [.int v0]) (va_Qi post (gx_B Z) (gx_A Z)) 0 0 (gx_A Z) := by
  refine gx_met (by decide +kernel) (Nat.le_of_ble_eq_true rfl) ?_
  intro E X hZ hQ hD hL
  subst hZ
  exact w_X1_isOfName X (Nat.le_of_eq hD.symm) hQ h
-- PlainSeal$Mail.nameLength(LPlainSeal$Bytes;I)I
theorem dX1_nameLength_0 : decode cX1_nameLength 0 = .ok (.iconst 0, 1) := by decide +kernel
theorem dX1_nameLength_1 : decode cX1_nameLength 1 = .ok (.istore_n 2, 1) := by decide +kernel
theorem dX1_nameLength_2 : decode cX1_nameLength 2 = .ok (.iload_n 2, 1) := by decide +kernel
theorem dX1_nameLength_3 : decode cX1_nameLength 3 = .ok (.bipush 20, 2) := by decide +kernel
theorem dX1_nameLength_5 : decode cX1_nameLength 5 = .ok (.if_icmp .ge 22, 3) := by decide +kernel
theorem dX1_nameLength_8 : decode cX1_nameLength 8 = .ok (.aload_n 0, 1) := by decide +kernel
theorem dX1_nameLength_9 : decode cX1_nameLength 9 = .ok (.iload_n 1, 1) := by decide +kernel
theorem dX1_nameLength_10 : decode cX1_nameLength 10 = .ok (.iload_n 2, 1) := by decide +kernel
theorem dX1_nameLength_11 : decode cX1_nameLength 11 = .ok (.iadd, 1) := by decide +kernel
theorem dX1_nameLength_12 : decode cX1_nameLength 12 = .ok (.invokevirtual 49, 3) := by decide +kernel
theorem dX1_nameLength_15 : decode cX1_nameLength 15 = .ok (.invokestatic 53, 3) := by decide +kernel
theorem dX1_nameLength_18 : decode cX1_nameLength 18 = .ok (.ifCond .eq 9, 3) := by decide +kernel
theorem dX1_nameLength_21 : decode cX1_nameLength 21 = .ok (.iinc 2 1, 3) := by decide +kernel
theorem dX1_nameLength_24 : decode cX1_nameLength 24 = .ok (.goto (-22), 3) := by decide +kernel
theorem dX1_nameLength_27 : decode cX1_nameLength 27 = .ok (.aload_n 0, 1) := by decide +kernel
theorem dX1_nameLength_28 : decode cX1_nameLength 28 = .ok (.iload_n 1, 1) := by decide +kernel
theorem dX1_nameLength_29 : decode cX1_nameLength 29 = .ok (.iload_n 2, 1) := by decide +kernel
theorem dX1_nameLength_30 : decode cX1_nameLength 30 = .ok (.iadd, 1) := by decide +kernel
theorem dX1_nameLength_31 : decode cX1_nameLength 31 = .ok (.invokevirtual 49, 3) := by decide +kernel
theorem dX1_nameLength_34 : decode cX1_nameLength 34 = .ok (.bipush 58, 2) := by decide +kernel
theorem dX1_nameLength_36 : decode cX1_nameLength 36 = .ok (.if_icmp .ne 7, 3) := by decide +kernel
theorem dX1_nameLength_39 : decode cX1_nameLength 39 = .ok (.iload_n 2, 1) := by decide +kernel
theorem dX1_nameLength_40 : decode cX1_nameLength 40 = .ok (.goto 4, 3) := by decide +kernel
theorem dX1_nameLength_43 : decode cX1_nameLength 43 = .ok (.iconst 0, 1) := by decide +kernel
theorem dX1_nameLength_44 : decode cX1_nameLength 44 = .ok (.ireturn, 1) := by decide +kernel
theorem hyX1_nameLength : yX1_nameLength.cls ≠ "java/lang/invoke/MethodHandle" ∧ yX1_nameLength.cls ≠ "java/lang/invoke/VarHandle" ∧ (parseMethodDescriptor yX1_nameLength.desc).map (fun d => d.parameters.length) = some 2 := by decide +kernel
abbrev J_X1_nameLength_2 (E : gx_E) (v0 : Nat) (v1 : Int32) (v2 : Int32) (u : gx_S) : Prop := gx_Wc E 3 2 [(0, .ref (ex_ad E v0)), (1, .int v1), (2, .int v2)] [] u
set_option maxHeartbeats 4000000 in
set_option maxRecDepth 100000 in
theorem w_X1_nameLength_0 {E : gx_E} (X : gx_X E cX1_nameLength 3 RX1 (some .int)) (hd : 2 ≤ ex_d E) {post : Int32 → gx_S → Prop} (hQ : ex_Q E = va_Qi post (gx_B (ex_Z E)) (gx_A (ex_Z E))) {u : gx_S} {v0 : Nat} {v1 : Int32} (h : J_X1_nameLength_2 E v0 v1 (0 : Int32) u) : gx_Wc E 3 0 [(0, .ref (ex_ad E v0)), (1, .int v1)] [] u := by
  refine gx_iconst X (v := 0) dX1_nameLength_0 (by decide) ?_
  refine gx_istore_n X (lv' := [(2, .int (0 : Int32)), (0, .ref (ex_ad E v0)), (1, .int v1)]) dX1_nameLength_1 rfl (by decide) rfl ?_
  exact gx_sub [1, 2, 0] rfl h
set_option maxHeartbeats 4000000 in
set_option maxRecDepth 100000 in
theorem w_X1_nameLength_2 {E : gx_E} (X : gx_X E cX1_nameLength 3 RX1 (some .int)) (hd : 2 ≤ ex_d E) {post : Int32 → gx_S → Prop} (hQ : ex_Q E = va_Qi post (gx_B (ex_Z E)) (gx_A (ex_Z E))) {u : gx_S} {v0 : Nat} {v1 : Int32} {v2 : Int32} (h : (((20 : Int32) ≤ v2 → (gx_isO v0 0 ∧ S_X0_at u v0 (v1 + v2) (fun (r3 : Int32) (u2 : gx_S) => ((¬ r3 = (58 : Int32) → post (0 : Int32) u2) ∧ (r3 = (58 : Int32) → post v2 u2))))) ∧ (¬ (20 : Int32) ≤ v2 → (gx_isO v0 0 ∧ S_X0_at u v0 (v1 + v2) (fun (r7 : Int32) (u6 : gx_S) => (S_X1_isOfName u6 r7 (fun (r9 : Int32) (u8 : gx_S) => ((r9 = 0 → (S_X0_at u8 v0 (v1 + v2) (fun (r11 : Int32) (u10 : gx_S) => ((¬ r11 = (58 : Int32) → post (0 : Int32) u10) ∧ (r11 = (58 : Int32) → post v2 u10))))) ∧ (¬ r9 = 0 → (∀ x13 : Int32, x13 = v2 + 1 → J_X1_nameLength_2 E v0 v1 x13 u8)))))))))) : gx_Wc E 3 2 [(0, .ref (ex_ad E v0)), (1, .int v1), (2, .int v2)] [] u := by
  refine gx_iload_n X (j := 2) dX1_nameLength_2 rfl rfl ?_
  refine gx_bipush X (v := 20) dX1_nameLength_3 (by decide) ?_
  refine gx_icmp_ge X (tgt := 27) dX1_nameLength_5 (by decide) (fun c15 => ?_) (fun c15 => ?_)
  · replace h := h.1 c15
    refine gx_aload_n X (j := 0) dX1_nameLength_27 rfl rfl ?_
    refine gx_iload_n X (j := 1) dX1_nameLength_28 rfl rfl ?_
    refine gx_iload_n X (j := 2) dX1_nameLength_29 rfl rfl ?_
    refine gx_iadd X dX1_nameLength_30 ?_
    obtain ⟨k1, h⟩ := h
    refine gx_ki (gx_rV X (c_X0_at h) (Nat.le_trans (by decide) hd) (Nat.le_trans (by decide) (Nat.mul_le_mul_left 40 hd)) k1 rfl mw_162 mw_163 mw_164 mw_2 mw_165 hyX0_at (As := [.int (v1 + v2)]) (rest := []) rfl rfl (Nat.le_of_ble_eq_true rfl) dX1_nameLength_31) (fun r3 u2 h => ?_)
    refine gx_bipush X (v := 58) dX1_nameLength_34 (by decide) ?_
    refine gx_icmp_ne X (tgt := 43) dX1_nameLength_36 (by decide) (fun c4 => ?_) (fun c4 => ?_)
    · replace h := h.1 c4
      refine gx_iconst X (v := 0) dX1_nameLength_43 (by decide) ?_
      exact gx_iret X hQ h dX1_nameLength_44
    · replace h := h.2 c4
      refine gx_iload_n X (j := 2) dX1_nameLength_39 rfl rfl ?_
      refine gx_goto X (tgt := 44) dX1_nameLength_40 (by decide) ?_
      exact gx_iret X hQ h dX1_nameLength_44
  · replace h := h.2 c15
    refine gx_aload_n X (j := 0) dX1_nameLength_8 rfl rfl ?_
    refine gx_iload_n X (j := 1) dX1_nameLength_9 rfl rfl ?_
    refine gx_iload_n X (j := 2) dX1_nameLength_10 rfl rfl ?_
    refine gx_iadd X dX1_nameLength_11 ?_
    obtain ⟨k5, h⟩ := h
    refine gx_ki (gx_rV X (c_X0_at h) (Nat.le_trans (by decide) hd) (Nat.le_trans (by decide) (Nat.mul_le_mul_left 40 hd)) k5 rfl mw_162 mw_163 mw_164 mw_2 mw_165 hyX0_at (As := [.int (v1 + v2)]) (rest := []) rfl rfl (Nat.le_of_ble_eq_true rfl) dX1_nameLength_12) (fun r7 u6 h => ?_)
    refine gx_ki (gx_rS X (c_X1_isOfName h) (Nat.le_trans (by decide) hd) (Nat.le_trans (by decide) (Nat.mul_le_mul_left 40 hd)) mw_169 mw_170 mw_3 mw_171 hyX1_isOfName (As := [.int r7]) (rest := []) rfl rfl (Nat.le_of_ble_eq_true rfl) dX1_nameLength_15) (fun r9 u8 h => ?_)
    refine gx_if_eq X (tgt := 27) dX1_nameLength_18 (by decide) (fun c14 => ?_) (fun c14 => ?_)
    · replace h := h.1 c14
      refine gx_aload_n X (j := 0) dX1_nameLength_27 rfl rfl ?_
      refine gx_iload_n X (j := 1) dX1_nameLength_28 rfl rfl ?_
      refine gx_iload_n X (j := 2) dX1_nameLength_29 rfl rfl ?_
      refine gx_iadd X dX1_nameLength_30 ?_
      refine gx_ki (gx_rV X (c_X0_at h) (Nat.le_trans (by decide) hd) (Nat.le_trans (by decide) (Nat.mul_le_mul_left 40 hd)) k5 rfl mw_162 mw_163 mw_164 mw_2 mw_165 hyX0_at (As := [.int (v1 + v2)]) (rest := []) rfl rfl (Nat.le_of_ble_eq_true rfl) dX1_nameLength_31) (fun r11 u10 h => ?_)
      refine gx_bipush X (v := 58) dX1_nameLength_34 (by decide) ?_
      refine gx_icmp_ne X (tgt := 43) dX1_nameLength_36 (by decide) (fun c12 => ?_) (fun c12 => ?_)
      · replace h := h.1 c12
        refine gx_iconst X (v := 0) dX1_nameLength_43 (by decide) ?_
        exact gx_iret X hQ h dX1_nameLength_44
      · replace h := h.2 c12
        refine gx_iload_n X (j := 2) dX1_nameLength_39 rfl rfl ?_
        refine gx_goto X (tgt := 44) dX1_nameLength_40 (by decide) ?_
        exact gx_iret X hQ h dX1_nameLength_44
    · replace h := h.2 c14
      obtain ⟨x13, ex13⟩ : ∃ y : Int32, y = v2 + 1 := ⟨_, rfl⟩
      replace h := h x13 ex13
      refine gx_iinc X (v := x13) (lv' := [(2, .int x13), (0, .ref (ex_ad E v0)), (1, .int v1)]) dX1_nameLength_21 (j := 2) rfl (by rw [ex13]; rfl) (by decide) rfl ?_
      refine gx_goto X (tgt := 2) dX1_nameLength_24 (by decide) ?_
      exact gx_sub [1, 2, 0] rfl h
-- PlainSeal$Mail.fieldsEndAt(LPlainSeal$Bytes;I)Z
theorem dX1_fieldsEndAt_0 : decode cX1_fieldsEndAt 0 = .ok (.iload_n 1, 1) := by decide +kernel
theorem dX1_fieldsEndAt_1 : decode cX1_fieldsEndAt 1 = .ok (.aload_n 0, 1) := by decide +kernel
theorem dX1_fieldsEndAt_2 : decode cX1_fieldsEndAt 2 = .ok (.invokevirtual 45, 3) := by decide +kernel
theorem dX1_fieldsEndAt_5 : decode cX1_fieldsEndAt 5 = .ok (.if_icmp .ge 13, 3) := by decide +kernel
theorem dX1_fieldsEndAt_8 : decode cX1_fieldsEndAt 8 = .ok (.aload_n 0, 1) := by decide +kernel
theorem dX1_fieldsEndAt_9 : decode cX1_fieldsEndAt 9 = .ok (.iload_n 1, 1) := by decide +kernel
theorem dX1_fieldsEndAt_10 : decode cX1_fieldsEndAt 10 = .ok (.invokevirtual 49, 3) := by decide +kernel
theorem dX1_fieldsEndAt_13 : decode cX1_fieldsEndAt 13 = .ok (.bipush 10, 2) := by decide +kernel
theorem dX1_fieldsEndAt_15 : decode cX1_fieldsEndAt 15 = .ok (.if_icmp .ne 7, 3) := by decide +kernel
theorem dX1_fieldsEndAt_18 : decode cX1_fieldsEndAt 18 = .ok (.iconst 1, 1) := by decide +kernel
theorem dX1_fieldsEndAt_19 : decode cX1_fieldsEndAt 19 = .ok (.goto 4, 3) := by decide +kernel
theorem dX1_fieldsEndAt_22 : decode cX1_fieldsEndAt 22 = .ok (.iconst 0, 1) := by decide +kernel
theorem dX1_fieldsEndAt_23 : decode cX1_fieldsEndAt 23 = .ok (.ireturn, 1) := by decide +kernel
theorem hyX1_fieldsEndAt : yX1_fieldsEndAt.cls ≠ "java/lang/invoke/MethodHandle" ∧ yX1_fieldsEndAt.cls ≠ "java/lang/invoke/VarHandle" ∧ (parseMethodDescriptor yX1_fieldsEndAt.desc).map (fun d => d.parameters.length) = some 2 := by decide +kernel
def S_X1_fieldsEndAt (u : gx_S) (v0 : Nat) (v1 : Int32) (post : Int32 → gx_S → Prop) : Prop := (gx_isO v0 0 ∧ S_X0_size u v0 (fun (r3 : Int32) (u2 : gx_S) => ((r3 ≤ v1 → post (1 : Int32) u2) ∧ (¬ r3 ≤ v1 → (S_X0_at u2 v0 v1 (fun (r5 : Int32) (u4 : gx_S) => ((¬ r5 = (10 : Int32) → post (0 : Int32) u4) ∧ (r5 = (10 : Int32) → post (1 : Int32) u4))))))))
set_option maxHeartbeats 4000000 in
set_option maxRecDepth 100000 in
theorem w_X1_fieldsEndAt {E : gx_E} (X : gx_X E cX1_fieldsEndAt 2 RX1 (some .boolean)) (hd : 1 ≤ ex_d E) {post : Int32 → gx_S → Prop} (hQ : ex_Q E = va_Qi post (gx_B (ex_Z E)) (gx_A (ex_Z E))) {u : gx_S} {v0 : Nat} {v1 : Int32} (h : S_X1_fieldsEndAt u v0 v1 post) : gx_Wc E 2 0 [(0, .ref (ex_ad E v0)), (1, .int v1)] [] u := by
  unfold S_X1_fieldsEndAt at h
  refine gx_iload_n X (j := 1) dX1_fieldsEndAt_0 rfl rfl ?_
  refine gx_aload_n X (j := 0) dX1_fieldsEndAt_1 rfl rfl ?_
  obtain ⟨k1, h⟩ := h
  refine gx_ki (gx_rV X (c_X0_size h) (Nat.le_trans (by decide) hd) (Nat.le_trans (by decide) (Nat.mul_le_mul_left 40 hd)) k1 rfl mw_161 mw_128 mw_129 mw_2 mw_130 hyX0_size (As := []) (rest := [.int v1]) rfl rfl (Nat.le_of_ble_eq_true rfl) dX1_fieldsEndAt_2) (fun r3 u2 h => ?_)
  refine gx_icmp_ge X (tgt := 18) dX1_fieldsEndAt_5 (by decide) (fun c7 => ?_) (fun c7 => ?_)
  · replace h := h.1 c7
    refine gx_iconst X (v := 1) dX1_fieldsEndAt_18 (by decide) ?_
    refine gx_goto X (tgt := 23) dX1_fieldsEndAt_19 (by decide) ?_
    exact gx_zret X hQ rfl h dX1_fieldsEndAt_23
  · replace h := h.2 c7
    refine gx_aload_n X (j := 0) dX1_fieldsEndAt_8 rfl rfl ?_
    refine gx_iload_n X (j := 1) dX1_fieldsEndAt_9 rfl rfl ?_
    refine gx_ki (gx_rV X (c_X0_at h) (Nat.le_trans (by decide) hd) (Nat.le_trans (by decide) (Nat.mul_le_mul_left 40 hd)) k1 rfl mw_162 mw_163 mw_164 mw_2 mw_165 hyX0_at (As := [.int v1]) (rest := []) rfl rfl (Nat.le_of_ble_eq_true rfl) dX1_fieldsEndAt_10) (fun r5 u4 h => ?_)
    refine gx_bipush X (v := 10) dX1_fieldsEndAt_13 (by decide) ?_
    refine gx_icmp_ne X (tgt := 22) dX1_fieldsEndAt_15 (by decide) (fun c6 => ?_) (fun c6 => ?_)
    · replace h := h.1 c6
      refine gx_iconst X (v := 0) dX1_fieldsEndAt_22 (by decide) ?_
      exact gx_zret X hQ rfl h dX1_fieldsEndAt_23
    · replace h := h.2 c6
      refine gx_iconst X (v := 1) dX1_fieldsEndAt_18 (by decide) ?_
      refine gx_goto X (tgt := 23) dX1_fieldsEndAt_19 (by decide) ?_
      exact gx_zret X hQ rfl h dX1_fieldsEndAt_23
theorem c_X1_fieldsEndAt {l : Launch} {Z : gx_Z} {u : gx_S} {v0 : Nat} {v1 : Int32} {post : Int32 → gx_S → Prop} (h : S_X1_fieldsEndAt u v0 v1 post) : Met l yX1_fieldsEndAt (Cond.code yX1_fieldsEndAt cX1_fieldsEndAt 2 (some .boolean) :: gx_TB) (gx_rm 1) (gx_Pre Z u [.ref (Z.2.1 v0), .int v1]) (va_Qi post (gx_B Z) (gx_A Z)) 0 0 (gx_A Z) := by
  refine gx_met (by decide +kernel) (Nat.le_of_ble_eq_true rfl) ?_
  intro E X hZ hQ hD hL
  subst hZ
  exact w_X1_fieldsEndAt X (Nat.le_of_eq hD.symm) hQ h
-- PlainSeal$Mail.fieldStop(LPlainSeal$Bytes;I)I
theorem dX1_fieldStop_0 : decode cX1_fieldStop 0 = .ok (.iload_n 1, 1) := by decide +kernel
theorem dX1_fieldStop_1 : decode cX1_fieldStop 1 = .ok (.istore_n 2, 1) := by decide +kernel
theorem dX1_fieldStop_2 : decode cX1_fieldStop 2 = .ok (.iload_n 2, 1) := by decide +kernel
theorem dX1_fieldStop_3 : decode cX1_fieldStop 3 = .ok (.aload_n 0, 1) := by decide +kernel
theorem dX1_fieldStop_4 : decode cX1_fieldStop 4 = .ok (.invokevirtual 45, 3) := by decide +kernel
theorem dX1_fieldStop_7 : decode cX1_fieldStop 7 = .ok (.if_icmp .ge 36, 3) := by decide +kernel
theorem dX1_fieldStop_10 : decode cX1_fieldStop 10 = .ok (.aload_n 0, 1) := by decide +kernel
theorem dX1_fieldStop_11 : decode cX1_fieldStop 11 = .ok (.iload_n 2, 1) := by decide +kernel
theorem dX1_fieldStop_12 : decode cX1_fieldStop 12 = .ok (.invokevirtual 49, 3) := by decide +kernel
theorem dX1_fieldStop_15 : decode cX1_fieldStop 15 = .ok (.bipush 10, 2) := by decide +kernel
theorem dX1_fieldStop_17 : decode cX1_fieldStop 17 = .ok (.if_icmp .ne 20, 3) := by decide +kernel
theorem dX1_fieldStop_20 : decode cX1_fieldStop 20 = .ok (.aload_n 0, 1) := by decide +kernel
theorem dX1_fieldStop_21 : decode cX1_fieldStop 21 = .ok (.iload_n 2, 1) := by decide +kernel
theorem dX1_fieldStop_22 : decode cX1_fieldStop 22 = .ok (.iconst 1, 1) := by decide +kernel
theorem dX1_fieldStop_23 : decode cX1_fieldStop 23 = .ok (.iadd, 1) := by decide +kernel
theorem dX1_fieldStop_24 : decode cX1_fieldStop 24 = .ok (.invokevirtual 49, 3) := by decide +kernel
theorem dX1_fieldStop_27 : decode cX1_fieldStop 27 = .ok (.invokestatic 66, 3) := by decide +kernel
theorem dX1_fieldStop_30 : decode cX1_fieldStop 30 = .ok (.ifCond .ne 7, 3) := by decide +kernel
theorem dX1_fieldStop_33 : decode cX1_fieldStop 33 = .ok (.iload_n 2, 1) := by decide +kernel
theorem dX1_fieldStop_34 : decode cX1_fieldStop 34 = .ok (.iconst 1, 1) := by decide +kernel
theorem dX1_fieldStop_35 : decode cX1_fieldStop 35 = .ok (.iadd, 1) := by decide +kernel
theorem dX1_fieldStop_36 : decode cX1_fieldStop 36 = .ok (.ireturn, 1) := by decide +kernel
theorem dX1_fieldStop_37 : decode cX1_fieldStop 37 = .ok (.iinc 2 1, 3) := by decide +kernel
theorem dX1_fieldStop_40 : decode cX1_fieldStop 40 = .ok (.goto (-38), 3) := by decide +kernel
theorem dX1_fieldStop_43 : decode cX1_fieldStop 43 = .ok (.aload_n 0, 1) := by decide +kernel
theorem dX1_fieldStop_44 : decode cX1_fieldStop 44 = .ok (.invokevirtual 45, 3) := by decide +kernel
theorem dX1_fieldStop_47 : decode cX1_fieldStop 47 = .ok (.ireturn, 1) := by decide +kernel
theorem hyX1_fieldStop : yX1_fieldStop.cls ≠ "java/lang/invoke/MethodHandle" ∧ yX1_fieldStop.cls ≠ "java/lang/invoke/VarHandle" ∧ (parseMethodDescriptor yX1_fieldStop.desc).map (fun d => d.parameters.length) = some 2 := by decide +kernel
abbrev J_X1_fieldStop_2 (E : gx_E) (v0 : Nat) (v1 : Int32) (v2 : Int32) (u : gx_S) : Prop := gx_Wc E 3 2 [(0, .ref (ex_ad E v0)), (1, .int v1), (2, .int v2)] [] u
set_option maxHeartbeats 4000000 in
set_option maxRecDepth 100000 in
theorem w_X1_fieldStop_0 {E : gx_E} (X : gx_X E cX1_fieldStop 3 RX1 (some .int)) (hd : 1 ≤ ex_d E) {post : Int32 → gx_S → Prop} (hQ : ex_Q E = va_Qi post (gx_B (ex_Z E)) (gx_A (ex_Z E))) {u : gx_S} {v0 : Nat} {v1 : Int32} (h : J_X1_fieldStop_2 E v0 v1 v1 u) : gx_Wc E 3 0 [(0, .ref (ex_ad E v0)), (1, .int v1)] [] u := by
  refine gx_iload_n X (j := 1) dX1_fieldStop_0 rfl rfl ?_
  refine gx_istore_n X (lv' := [(2, .int v1), (0, .ref (ex_ad E v0)), (1, .int v1)]) dX1_fieldStop_1 rfl (by decide) rfl ?_
  exact gx_sub [1, 2, 0] rfl h
set_option maxHeartbeats 4000000 in
set_option maxRecDepth 100000 in
theorem w_X1_fieldStop_2 {E : gx_E} (X : gx_X E cX1_fieldStop 3 RX1 (some .int)) (hd : 1 ≤ ex_d E) {post : Int32 → gx_S → Prop} (hQ : ex_Q E = va_Qi post (gx_B (ex_Z E)) (gx_A (ex_Z E))) {u : gx_S} {v0 : Nat} {v1 : Int32} {v2 : Int32} (h : (gx_isO v0 0 ∧ S_X0_size u v0 (fun (r3 : Int32) (u2 : gx_S) => ((r3 ≤ v2 → (S_X0_size u2 v0 (fun (r5 : Int32) (u4 : gx_S) => post r5 u4))) ∧ (¬ r3 ≤ v2 → (S_X0_at u2 v0 v2 (fun (r7 : Int32) (u6 : gx_S) => ((¬ r7 = (10 : Int32) → (∀ x8 : Int32, x8 = v2 + 1 → J_X1_fieldStop_2 E v0 v1 x8 u6)) ∧ (r7 = (10 : Int32) → (S_X0_at u6 v0 (v2 + (1 : Int32)) (fun (r10 : Int32) (u9 : gx_S) => (S_X6_isWhite u9 r10 (fun (r12 : Int32) (u11 : gx_S) => ((¬ r12 = 0 → (∀ x13 : Int32, x13 = v2 + 1 → J_X1_fieldStop_2 E v0 v1 x13 u11)) ∧ (r12 = 0 → post (v2 + (1 : Int32)) u11))))))))))))))) : gx_Wc E 3 2 [(0, .ref (ex_ad E v0)), (1, .int v1), (2, .int v2)] [] u := by
  refine gx_iload_n X (j := 2) dX1_fieldStop_2 rfl rfl ?_
  refine gx_aload_n X (j := 0) dX1_fieldStop_3 rfl rfl ?_
  obtain ⟨k1, h⟩ := h
  refine gx_ki (gx_rV X (c_X0_size h) (Nat.le_trans (by decide) hd) (Nat.le_trans (by decide) (Nat.mul_le_mul_left 40 hd)) k1 rfl mw_161 mw_128 mw_129 mw_2 mw_130 hyX0_size (As := []) (rest := [.int v2]) rfl rfl (Nat.le_of_ble_eq_true rfl) dX1_fieldStop_4) (fun r3 u2 h => ?_)
  refine gx_icmp_ge X (tgt := 43) dX1_fieldStop_7 (by decide) (fun c16 => ?_) (fun c16 => ?_)
  · replace h := h.1 c16
    refine gx_aload_n X (j := 0) dX1_fieldStop_43 rfl rfl ?_
    refine gx_ki (gx_rV X (c_X0_size h) (Nat.le_trans (by decide) hd) (Nat.le_trans (by decide) (Nat.mul_le_mul_left 40 hd)) k1 rfl mw_161 mw_128 mw_129 mw_2 mw_130 hyX0_size (As := []) (rest := []) rfl rfl (Nat.le_of_ble_eq_true rfl) dX1_fieldStop_44) (fun r5 u4 h => ?_)
    exact gx_iret X hQ h dX1_fieldStop_47
  · replace h := h.2 c16
    refine gx_aload_n X (j := 0) dX1_fieldStop_10 rfl rfl ?_
    refine gx_iload_n X (j := 2) dX1_fieldStop_11 rfl rfl ?_
    refine gx_ki (gx_rV X (c_X0_at h) (Nat.le_trans (by decide) hd) (Nat.le_trans (by decide) (Nat.mul_le_mul_left 40 hd)) k1 rfl mw_162 mw_163 mw_164 mw_2 mw_165 hyX0_at (As := [.int v2]) (rest := []) rfl rfl (Nat.le_of_ble_eq_true rfl) dX1_fieldStop_12) (fun r7 u6 h => ?_)
    refine gx_bipush X (v := 10) dX1_fieldStop_15 (by decide) ?_
    refine gx_icmp_ne X (tgt := 37) dX1_fieldStop_17 (by decide) (fun c15 => ?_) (fun c15 => ?_)
    · replace h := h.1 c15
      obtain ⟨x8, ex8⟩ : ∃ y : Int32, y = v2 + 1 := ⟨_, rfl⟩
      replace h := h x8 ex8
      refine gx_iinc X (v := x8) (lv' := [(2, .int x8), (0, .ref (ex_ad E v0)), (1, .int v1)]) dX1_fieldStop_37 (j := 2) rfl (by rw [ex8]; rfl) (by decide) rfl ?_
      refine gx_goto X (tgt := 2) dX1_fieldStop_40 (by decide) ?_
      exact gx_sub [1, 2, 0] rfl h
    · replace h := h.2 c15
      refine gx_aload_n X (j := 0) dX1_fieldStop_20 rfl rfl ?_
      refine gx_iload_n X (j := 2) dX1_fieldStop_21 rfl rfl ?_
      refine gx_iconst X (v := 1) dX1_fieldStop_22 (by decide) ?_
      refine gx_iadd X dX1_fieldStop_23 ?_
      refine gx_ki (gx_rV X (c_X0_at h) (Nat.le_trans (by decide) hd) (Nat.le_trans (by decide) (Nat.mul_le_mul_left 40 hd)) k1 rfl mw_162 mw_163 mw_164 mw_2 mw_165 hyX0_at (As := [.int (v2 + (1 : Int32))]) (rest := []) rfl rfl (Nat.le_of_ble_eq_true rfl) dX1_fieldStop_24) (fun r10 u9 h => ?_)
      refine gx_ki (gx_rSN X (c_X6_isWhite h) (Nat.le_trans (by decide) hd) (Nat.le_trans (by decide) (Nat.mul_le_mul_left 40 hd)) mn_3 mw_185 mw_1 mw_186 hyX6_isWhite (As := [.int r10]) (rest := []) rfl rfl (Nat.le_of_ble_eq_true rfl) dX1_fieldStop_27) (fun r12 u11 h => ?_)
      refine gx_if_ne X (tgt := 37) dX1_fieldStop_30 (by decide) (fun c14 => ?_) (fun c14 => ?_)
      · replace h := h.1 c14
        obtain ⟨x13, ex13⟩ : ∃ y : Int32, y = v2 + 1 := ⟨_, rfl⟩
        replace h := h x13 ex13
        refine gx_iinc X (v := x13) (lv' := [(2, .int x13), (0, .ref (ex_ad E v0)), (1, .int v1)]) dX1_fieldStop_37 (j := 2) rfl (by rw [ex13]; rfl) (by decide) rfl ?_
        refine gx_goto X (tgt := 2) dX1_fieldStop_40 (by decide) ?_
        exact gx_sub [1, 2, 0] rfl h
      · replace h := h.2 c14
        refine gx_iload_n X (j := 2) dX1_fieldStop_33 rfl rfl ?_
        refine gx_iconst X (v := 1) dX1_fieldStop_34 (by decide) ?_
        refine gx_iadd X dX1_fieldStop_35 ?_
        exact gx_iret X hQ h dX1_fieldStop_36
theorem i_X0_become {u : gx_S} {o p : Nat} {L M : List Nat} {post : gx_S → Prop} (hB : byL u o L) (hM : byL u p M) (hne : p ≠ o) (hr : gx_r u p 0 ≠ gx_r u o 0) (h : byU u o M post) : S_X0_become u o p post := by
  refine ⟨hB.1, i_X0_clear hB (fun f hf => ⟨hM.1, ?_⟩)⟩
  refine ⟨[], M, 0, M.length, byL_W hB hf (by simp), byL_ne hM hne hr, hne, hr, nI_0.symm, (byL_ne hM hne hr).2.2.2.1, by omega, Nat.le_refl _, ?_, byU_W ?_⟩
  · have := hM.2.2.2.2.1
    simp; omega
  · simpa using h
theorem gx_pa_self (u : gx_S) (a : Nat) : gx_pa u a (gx_a u a) = u := by
  refine gx_ext (fun _ _ => rfl) (fun _ _ => rfl) (fun _ _ => rfl) (fun b => ?_)
  rw [gx_a_pa]; split
  · rename_i e; rw [e]
  · rfl
theorem gx_pa_pa (u : gx_S) (a : Nat) (f g : Nat → Int32) : gx_pa (gx_pa u a f) a g = gx_pa u a g := by
  refine gx_ext (fun _ _ => rfl) (fun _ _ => rfl) (fun _ _ => rfl) (fun b => ?_)
  rw [gx_a_pa, gx_a_pa, gx_a_pa]; split <;> rfl
theorem byL_pa {u : gx_S} {o a : Nat} {M : List Nat} {f : Nat → Int32} (h : byL u o M) (ha : gx_r u o 0 ≠ a) : byL (gx_pa u a f) o M :=
  ⟨h.1, h.2.1, h.2.2.1, h.2.2.2.1, h.2.2.2.2.1, by rw [gx_a_pa, gx_r_pa, if_neg ha]; exact h.2.2.2.2.2⟩
theorem byL_pi {u : gx_S} {o p k : Nat} {M : List Nat} {x : Int32} (h : byL u o M) (hp : ¬ (o = p ∧ 1 = k)) : byL (gx_pi u p k x) o M :=
  ⟨h.1, h.2.1, h.2.2.1, by rw [gx_i_pi, if_neg hp]; exact h.2.2.2.1, h.2.2.2.2.1, h.2.2.2.2.2⟩
def isN (c : Nat) : Bool := isS c || isG c || isD c || c == 45
theorem b2_n0 {b : Bool} (h : ¬ b2 b = 0) : b = true := by cases b <;> simp_all [b2]
theorem i_X1_isOfName {u : gx_S} {c : Nat} {post : Int32 → gx_S → Prop} (hc : c < 256 ∨ c = 999) (h : post (b2 (isN c)) u) : S_X1_isOfName u (cI c) post := by
  unfold isN at h
  refine i_X6_isSmallLetter ⟨fun q => ?_, fun q => i_X6_isGreatLetter ⟨fun q2 => ?_, fun q2 => i_X6_isDigit ⟨fun q3 => ?_, fun q3 => ⟨fun q4 => ?_, fun q4 => ?_⟩⟩ hc⟩ hc⟩ hc
  · rw [b2_n0 q] at h; exact h
  · rw [b2_n0 q2] at h; rw [Bool.or_true] at h; exact h
  · rw [b2_n0 q3] at h; rw [Bool.or_true] at h; exact h
  · rw [b2_0] at q q2 q3
    have q5 : ¬ c = 45 := fun e => q4 ((cI_eq (k := 45) (by omega)).mpr e)
    rw [q, q2, q3, show (c == 45) = false by simpa using q5] at h; exact h
  · have q5 : c = 45 := (cI_eq (k := 45) (by omega)).mp q4
    rw [show (c == 45) = true by simpa using q5, Bool.or_true] at h; exact h
/-- how many bytes from i on are of a kind, at most so many -/
def runF (p : Nat → Bool) (L : List Nat) : Nat → Nat → Nat
  | 0, _ => 0
  | k + 1, i => if p (ch L i) then runF p L k (i + 1) + 1 else 0
theorem runF_le (p : Nat → Bool) (L : List Nat) : ∀ k i, runF p L k i ≤ k
  | 0, _ => Nat.le_refl _
  | k + 1, i => by
    unfold runF
    split
    · have := runF_le p L k (i + 1); omega
    · omega
def nameLen (L : List Nat) (i : Nat) : Nat := if ch L (i + runF isN L 20 i) = 58 then runF isN L 20 i else 0
theorem nameLen_le (L : List Nat) (i : Nat) : nameLen L i ≤ 20 := by
  unfold nameLen
  have := runF_le isN L 20 i
  split <;> omega
def S_X1_nameLength (u : gx_S) (v0 : Nat) (v1 : Int32) (post : Int32 → gx_S → Prop) : Prop := ∃ (M : List Nat) (i : Nat), byL u v0 M ∧ i < 2 ^ 30 ∧ v1 = nI i ∧ post (nI (nameLen M i)) u
theorem nl_end {u : gx_S} {v0 i k : Nat} {M : List Nat} {post : Int32 → gx_S → Prop} (hM : byL u v0 M) (hi : i < 2 ^ 30) (hk : k ≤ 20) (hr : runF isN M 20 i = k) (hp : post (nI (nameLen M i)) u) : S_X0_at u v0 (nI i + nI k) (fun (r3 : Int32) (u2 : gx_S) => ((¬ r3 = (58 : Int32) → post (0 : Int32) u2) ∧ (r3 = (58 : Int32) → post (nI k) u2))) := by
  rw [nI_add]
  unfold nameLen at hp
  rw [hr] at hp
  refine i_X0_at hM (by omega) ⟨fun q => ?_, fun q => ?_⟩
  · rw [if_neg (fun e => q ((cI_eq (k := 58) (by omega)).mpr e))] at hp; exact hp
  · rw [if_pos ((cI_eq (k := 58) (by omega)).mp q)] at hp; exact hp
theorem lp_X1_nameLength {E : gx_E} (X : gx_X E cX1_nameLength 3 RX1 (some .int)) (hd : 2 ≤ ex_d E) {post : Int32 → gx_S → Prop} (hQ : ex_Q E = va_Qi post (gx_B (ex_Z E)) (gx_A (ex_Z E))) {v0 i : Nat} {M : List Nat} {u : gx_S} (hM : byL u v0 M) (hi : i < 2 ^ 30) (hp : post (nI (nameLen M i)) u) :
    ∀ (n k : Nat), 20 - k = n → k ≤ 20 → runF isN M 20 i = k + runF isN M n (i + k) → J_X1_nameLength_2 E v0 (nI i) (nI k) u := by
  intro n
  induction n with
  | zero =>
    intro k hn hk hr
    refine w_X1_nameLength_2 X hd hQ ⟨fun _ => ⟨hM.1, nl_end hM hi hk hr hp⟩, fun q => absurd (nI_le (a := 20) (by omega) (by omega)) q⟩
  | succ n ih =>
    intro k hn hk hr
    refine w_X1_nameLength_2 X hd hQ ⟨fun q => absurd q (nI_ge (b := 20) (by omega) (by omega)), fun _ => ⟨hM.1, ?_⟩⟩
    rw [nI_add]
    refine i_X0_at hM (by omega) (i_X1_isOfName (ch_alt hM.2.2.2.2.2.1 _) ⟨fun q => ?_, fun q => ?_⟩)
    · rw [b2_0] at q
      unfold runF at hr
      rw [q] at hr
      have := nl_end hM hi hk hr hp
      rwa [nI_add] at this
    · have q2 := b2_n0 q
      rintro x13 rfl
      rw [nI_1]
      have e : runF isN M (n + 1) (i + k) = runF isN M n (i + k + 1) + 1 := by rw [runF, if_pos q2]
      exact ih (k + 1) (by omega) (by omega) (by rw [hr, e]; rw [show i + k + 1 = i + (k + 1) by omega]; omega)
theorem w_X1_nameLength {E : gx_E} (X : gx_X E cX1_nameLength 3 RX1 (some .int)) (hd : 2 ≤ ex_d E) {post : Int32 → gx_S → Prop} (hQ : ex_Q E = va_Qi post (gx_B (ex_Z E)) (gx_A (ex_Z E))) {u : gx_S} {v0 : Nat} {v1 : Int32} (h : S_X1_nameLength u v0 v1 post) : gx_Wc E 3 0 [(0, .ref (ex_ad E v0)), (1, .int v1)] [] u := by
  obtain ⟨M, i, hM, hi, rfl, hp⟩ := h
  exact w_X1_nameLength_0 X hd hQ (lp_X1_nameLength X hd hQ hM hi hp 20 0 (by omega) (by omega) (by simp))
theorem c_X1_nameLength {l : Launch} {Z : gx_Z} {u : gx_S} {v0 : Nat} {v1 : Int32} {post : Int32 → gx_S → Prop} (h : S_X1_nameLength u v0 v1 post) : Met l yX1_nameLength (Cond.code yX1_nameLength cX1_nameLength 3 (some .int) :: gx_TB) (gx_rm 2) (gx_Pre Z u [.ref (Z.2.1 v0), .int v1]) (va_Qi post (gx_B Z) (gx_A Z)) 0 0 (gx_A Z) := by
  refine gx_met (by decide +kernel) (Nat.le_of_ble_eq_true rfl) ?_
  intro E X hZ hQ hD hL
  subst hZ
  exact w_X1_nameLength X (Nat.le_of_eq hD.symm) hQ h
def fend (M : List Nat) (i : Nat) : Bool := decide (M.length ≤ i) || ch M i == 10
theorem i_X1_fieldsEndAt {u : gx_S} {v0 i : Nat} {M : List Nat} {post : Int32 → gx_S → Prop} (hM : byL u v0 M) (hi : i < 2 ^ 30) (h : post (b2 (fend M i)) u) : S_X1_fieldsEndAt u v0 (nI i) post := by
  have hM2 := hM.2.2.2.2.1
  unfold fend at h
  refine ⟨hM.1, i_X0_size hM ⟨fun q => ?_, fun q => i_X0_at hM (by omega) ⟨fun q2 => ?_, fun q2 => ?_⟩⟩⟩
  · rw [nI_leI (by omega) (by omega)] at q
    rw [show decide (M.length ≤ i) = true by simpa using q] at h; exact h
  · rw [nI_leI (by omega) (by omega)] at q
    rw [show decide (M.length ≤ i) = false by simpa using q, show (ch M i == 10) = false by simpa using (fun e => q2 ((cI_eq (k := 10) (by omega)).mpr e))] at h; exact h
  · rw [show (ch M i == 10) = true by simpa using ((cI_eq (k := 10) (by omega)).mp q2), Bool.or_true] at h; exact h
def fstF (M : List Nat) : Nat → Nat → Nat
  | 0, _ => M.length
  | k + 1, i => if ch M i = 10 ∧ isW (ch M (i + 1)) = false then i + 1 else fstF M k (i + 1)
/-- where the field ends that goes on at i -/
def fst_ (M : List Nat) (i : Nat) : Nat := fstF M (M.length - i) i
theorem fstF_le (M : List Nat) : ∀ k i, k = M.length - i → fstF M k i ≤ M.length
  | 0, _, _ => Nat.le_refl _
  | k + 1, i, h => by
    unfold fstF
    split
    · omega
    · exact fstF_le M k (i + 1) (by omega)
theorem fst_le (M : List Nat) (i : Nat) : fst_ M i ≤ M.length := fstF_le M _ i rfl
def S_X1_fieldStop (u : gx_S) (v0 : Nat) (v1 : Int32) (post : Int32 → gx_S → Prop) : Prop := ∃ (M : List Nat) (i : Nat), byL u v0 M ∧ i < 2 ^ 30 ∧ v1 = nI i ∧ post (nI (fst_ M i)) u
theorem lp_X1_fieldStop {E : gx_E} (X : gx_X E cX1_fieldStop 3 RX1 (some .int)) (hd : 1 ≤ ex_d E) {post : Int32 → gx_S → Prop} (hQ : ex_Q E = va_Qi post (gx_B (ex_Z E)) (gx_A (ex_Z E))) {v0 : Nat} {v1 : Int32} {M : List Nat} {u : gx_S} (hM : byL u v0 M) :
    ∀ (n i : Nat), M.length - i = n → i < 2 ^ 30 → post (nI (fstF M n i)) u → J_X1_fieldStop_2 E v0 v1 (nI i) u := by
  have hM2 := hM.2.2.2.2.1
  intro n
  induction n with
  | zero =>
    intro i hn hi hp
    refine w_X1_fieldStop_2 X hd hQ ⟨hM.1, i_X0_size hM ⟨fun _ => i_X0_size hM hp, fun q => absurd (nI_le (by omega) (by omega)) q⟩⟩
  | succ n ih =>
    intro i hn hi hp
    unfold fstF at hp
    refine w_X1_fieldStop_2 X hd hQ ⟨hM.1, i_X0_size hM ⟨fun q => absurd q (nI_ge (by omega) (by omega)), fun _ => i_X0_at hM (by omega) ⟨fun q => ?_, fun q => ?_⟩⟩⟩
    · rintro x8 rfl
      rw [nI_1]
      rw [if_neg (fun e => q ((cI_eq (k := 10) (by omega)).mpr e.1))] at hp
      exact ih (i + 1) (by omega) (by omega) hp
    · have q1 : ch M i = 10 := (cI_eq (k := 10) (by omega)).mp q
      rw [nI_1]
      refine i_X0_at hM (by omega) (i_X6_isWhite ⟨fun q2 => ?_, fun q2 => ?_⟩)
      · rintro x13 rfl
        rw [if_neg (fun e => by rw [b2_n0 q2] at e; exact absurd e.2 (by decide))] at hp
        exact ih (i + 1) (by omega) (by omega) hp
      · rw [b2_0] at q2
        rw [if_pos ⟨q1, q2⟩] at hp
        exact hp
theorem w_X1_fieldStop {E : gx_E} (X : gx_X E cX1_fieldStop 3 RX1 (some .int)) (hd : 1 ≤ ex_d E) {post : Int32 → gx_S → Prop} (hQ : ex_Q E = va_Qi post (gx_B (ex_Z E)) (gx_A (ex_Z E))) {u : gx_S} {v0 : Nat} {v1 : Int32} (h : S_X1_fieldStop u v0 v1 post) : gx_Wc E 3 0 [(0, .ref (ex_ad E v0)), (1, .int v1)] [] u := by
  obtain ⟨M, i, hM, hi, rfl, hp⟩ := h
  exact w_X1_fieldStop_0 X hd hQ (lp_X1_fieldStop X hd hQ hM (M.length - i) i rfl hi hp)
theorem c_X1_fieldStop {l : Launch} {Z : gx_Z} {u : gx_S} {v0 : Nat} {v1 : Int32} {post : Int32 → gx_S → Prop} (h : S_X1_fieldStop u v0 v1 post) : Met l yX1_fieldStop (Cond.code yX1_fieldStop cX1_fieldStop 3 (some .int) :: gx_TB) (gx_rm 1) (gx_Pre Z u [.ref (Z.2.1 v0), .int v1]) (va_Qi post (gx_B Z) (gx_A Z)) 0 0 (gx_A Z) := by
  refine gx_met (by decide +kernel) (Nat.le_of_ble_eq_true rfl) ?_
  intro E X hZ hQ hD hL
  subst hZ
  exact w_X1_fieldStop X (Nat.le_of_eq hD.symm) hQ h
-- PlainSeal$Mail.countFields(LPlainSeal$Bytes;)I
theorem dX1_countFields_0 : decode cX1_countFields 0 = .ok (.iconst 0, 1) := by decide +kernel
theorem dX1_countFields_1 : decode cX1_countFields 1 = .ok (.istore_n 1, 1) := by decide +kernel
theorem dX1_countFields_2 : decode cX1_countFields 2 = .ok (.iconst 0, 1) := by decide +kernel
theorem dX1_countFields_3 : decode cX1_countFields 3 = .ok (.istore_n 2, 1) := by decide +kernel
theorem dX1_countFields_4 : decode cX1_countFields 4 = .ok (.iload_n 2, 1) := by decide +kernel
theorem dX1_countFields_5 : decode cX1_countFields 5 = .ok (.bipush 20, 2) := by decide +kernel
theorem dX1_countFields_7 : decode cX1_countFields 7 = .ok (.if_icmp .gt 35, 3) := by decide +kernel
theorem dX1_countFields_10 : decode cX1_countFields 10 = .ok (.aload_n 0, 1) := by decide +kernel
theorem dX1_countFields_11 : decode cX1_countFields 11 = .ok (.iload_n 1, 1) := by decide +kernel
theorem dX1_countFields_12 : decode cX1_countFields 12 = .ok (.invokestatic 38, 3) := by decide +kernel
theorem dX1_countFields_15 : decode cX1_countFields 15 = .ok (.ifCond .eq 5, 3) := by decide +kernel
theorem dX1_countFields_18 : decode cX1_countFields 18 = .ok (.iload_n 2, 1) := by decide +kernel
theorem dX1_countFields_19 : decode cX1_countFields 19 = .ok (.ireturn, 1) := by decide +kernel
theorem dX1_countFields_20 : decode cX1_countFields 20 = .ok (.aload_n 0, 1) := by decide +kernel
theorem dX1_countFields_21 : decode cX1_countFields 21 = .ok (.iload_n 1, 1) := by decide +kernel
theorem dX1_countFields_22 : decode cX1_countFields 22 = .ok (.invokestatic 42, 3) := by decide +kernel
theorem dX1_countFields_25 : decode cX1_countFields 25 = .ok (.ifCond .ne 5, 3) := by decide +kernel
theorem dX1_countFields_28 : decode cX1_countFields 28 = .ok (.iconst 0, 1) := by decide +kernel
theorem dX1_countFields_29 : decode cX1_countFields 29 = .ok (.ireturn, 1) := by decide +kernel
theorem dX1_countFields_30 : decode cX1_countFields 30 = .ok (.aload_n 0, 1) := by decide +kernel
theorem dX1_countFields_31 : decode cX1_countFields 31 = .ok (.iload_n 1, 1) := by decide +kernel
theorem dX1_countFields_32 : decode cX1_countFields 32 = .ok (.invokestatic 34, 3) := by decide +kernel
theorem dX1_countFields_35 : decode cX1_countFields 35 = .ok (.istore_n 1, 1) := by decide +kernel
theorem dX1_countFields_36 : decode cX1_countFields 36 = .ok (.iinc 2 1, 3) := by decide +kernel
theorem dX1_countFields_39 : decode cX1_countFields 39 = .ok (.goto (-35), 3) := by decide +kernel
theorem dX1_countFields_42 : decode cX1_countFields 42 = .ok (.iconst 0, 1) := by decide +kernel
theorem dX1_countFields_43 : decode cX1_countFields 43 = .ok (.ireturn, 1) := by decide +kernel
theorem hyX1_countFields : yX1_countFields.cls ≠ "java/lang/invoke/MethodHandle" ∧ yX1_countFields.cls ≠ "java/lang/invoke/VarHandle" ∧ (parseMethodDescriptor yX1_countFields.desc).map (fun d => d.parameters.length) = some 1 := by decide +kernel
abbrev J_X1_countFields_4 (E : gx_E) (v0 : Nat) (v1 : Int32) (v2 : Int32) (u : gx_S) : Prop := gx_Wc E 3 4 [(0, .ref (ex_ad E v0)), (1, .int v1), (2, .int v2)] [] u
set_option maxHeartbeats 4000000 in
set_option maxRecDepth 100000 in
theorem w_X1_countFields_0 {E : gx_E} (X : gx_X E cX1_countFields 3 RX1 (some .int)) (hd : 3 ≤ ex_d E) {post : Int32 → gx_S → Prop} (hQ : ex_Q E = va_Qi post (gx_B (ex_Z E)) (gx_A (ex_Z E))) {u : gx_S} {v0 : Nat} (h : J_X1_countFields_4 E v0 (0 : Int32) (0 : Int32) u) : gx_Wc E 3 0 [(0, .ref (ex_ad E v0))] [] u := by
  refine gx_iconst X (v := 0) dX1_countFields_0 (by decide) ?_
  refine gx_istore_n X (lv' := [(1, .int (0 : Int32)), (0, .ref (ex_ad E v0))]) dX1_countFields_1 rfl (by decide) rfl ?_
  refine gx_iconst X (v := 0) dX1_countFields_2 (by decide) ?_
  refine gx_istore_n X (lv' := [(2, .int (0 : Int32)), (1, .int (0 : Int32)), (0, .ref (ex_ad E v0))]) dX1_countFields_3 rfl (by decide) rfl ?_
  exact gx_sub [2, 1, 0] rfl h
set_option maxHeartbeats 4000000 in
set_option maxRecDepth 100000 in
theorem w_X1_countFields_4 {E : gx_E} (X : gx_X E cX1_countFields 3 RX1 (some .int)) (hd : 3 ≤ ex_d E) {post : Int32 → gx_S → Prop} (hQ : ex_Q E = va_Qi post (gx_B (ex_Z E)) (gx_A (ex_Z E))) {u : gx_S} {v0 : Nat} {v1 : Int32} {v2 : Int32} (h : (((20 : Int32) < v2 → post (0 : Int32) u) ∧ (¬ (20 : Int32) < v2 → (S_X1_fieldsEndAt u v0 v1 (fun (r2 : Int32) (u1 : gx_S) => ((r2 = 0 → (S_X1_nameLength u1 v0 v1 (fun (r4 : Int32) (u3 : gx_S) => ((¬ r4 = 0 → (S_X1_fieldStop u3 v0 v1 (fun (r6 : Int32) (u5 : gx_S) => (∀ x7 : Int32, x7 = v2 + 1 → J_X1_countFields_4 E v0 r6 x7 u5)))) ∧ (r4 = 0 → post (0 : Int32) u3))))) ∧ (¬ r2 = 0 → post v2 u1))))))) : gx_Wc E 3 4 [(0, .ref (ex_ad E v0)), (1, .int v1), (2, .int v2)] [] u := by
  refine gx_iload_n X (j := 2) dX1_countFields_4 rfl rfl ?_
  refine gx_bipush X (v := 20) dX1_countFields_5 (by decide) ?_
  refine gx_icmp_gt X (tgt := 42) dX1_countFields_7 (by decide) (fun c10 => ?_) (fun c10 => ?_)
  · replace h := h.1 c10
    refine gx_iconst X (v := 0) dX1_countFields_42 (by decide) ?_
    exact gx_iret X hQ h dX1_countFields_43
  · replace h := h.2 c10
    refine gx_aload_n X (j := 0) dX1_countFields_10 rfl rfl ?_
    refine gx_iload_n X (j := 1) dX1_countFields_11 rfl rfl ?_
    refine gx_ki (gx_rS X (c_X1_fieldsEndAt h) (Nat.le_trans (by decide) hd) (Nat.le_trans (by decide) (Nat.mul_le_mul_left 40 hd)) mw_158 mw_159 mw_3 mw_160 hyX1_fieldsEndAt (As := [.ref (ex_ad E v0), .int v1]) (rest := []) rfl rfl (Nat.le_of_ble_eq_true rfl) dX1_countFields_12) (fun r2 u1 h => ?_)
    refine gx_if_eq X (tgt := 20) dX1_countFields_15 (by decide) (fun c9 => ?_) (fun c9 => ?_)
    · replace h := h.1 c9
      refine gx_aload_n X (j := 0) dX1_countFields_20 rfl rfl ?_
      refine gx_iload_n X (j := 1) dX1_countFields_21 rfl rfl ?_
      refine gx_ki (gx_rS X (c_X1_nameLength h) (Nat.le_trans (by decide) hd) (Nat.le_trans (by decide) (Nat.mul_le_mul_left 40 hd)) mw_166 mw_167 mw_3 mw_168 hyX1_nameLength (As := [.ref (ex_ad E v0), .int v1]) (rest := []) rfl rfl (Nat.le_of_ble_eq_true rfl) dX1_countFields_22) (fun r4 u3 h => ?_)
      refine gx_if_ne X (tgt := 30) dX1_countFields_25 (by decide) (fun c8 => ?_) (fun c8 => ?_)
      · replace h := h.1 c8
        refine gx_aload_n X (j := 0) dX1_countFields_30 rfl rfl ?_
        refine gx_iload_n X (j := 1) dX1_countFields_31 rfl rfl ?_
        refine gx_ki (gx_rS X (c_X1_fieldStop h) (Nat.le_trans (by decide) hd) (Nat.le_trans (by decide) (Nat.mul_le_mul_left 40 hd)) mw_181 mw_182 mw_3 mw_183 hyX1_fieldStop (As := [.ref (ex_ad E v0), .int v1]) (rest := []) rfl rfl (Nat.le_of_ble_eq_true rfl) dX1_countFields_32) (fun r6 u5 h => ?_)
        refine gx_istore_n X (lv' := [(1, .int r6), (0, .ref (ex_ad E v0)), (2, .int v2)]) dX1_countFields_35 rfl (by decide) rfl ?_
        obtain ⟨x7, ex7⟩ : ∃ y : Int32, y = v2 + 1 := ⟨_, rfl⟩
        replace h := h x7 ex7
        refine gx_iinc X (v := x7) (lv' := [(2, .int x7), (1, .int r6), (0, .ref (ex_ad E v0))]) dX1_countFields_36 (j := 2) rfl (by rw [ex7]; rfl) (by decide) rfl ?_
        refine gx_goto X (tgt := 4) dX1_countFields_39 (by decide) ?_
        exact gx_sub [2, 1, 0] rfl h
      · replace h := h.2 c8
        refine gx_iconst X (v := 0) dX1_countFields_28 (by decide) ?_
        exact gx_iret X hQ h dX1_countFields_29
    · replace h := h.2 c9
      refine gx_iload_n X (j := 2) dX1_countFields_18 rfl rfl ?_
      exact gx_iret X hQ h dX1_countFields_19
def cntF (M : List Nat) : Nat → Nat → Nat → Nat
  | 0, _, _ => 0
  | k + 1, f, p => if fend M p then f else if nameLen M p = 0 then 0 else cntF M k (f + 1) (fst_ M p)
/-- how many fields a row has; 0: it is no message -/
def cnt (M : List Nat) : Nat := cntF M 21 0 0
theorem cntF_le (M : List Nat) : ∀ k f p, f + k ≤ 21 → cntF M k f p ≤ 20
  | 0, _, _, _ => by simp [cntF]
  | k + 1, f, p, h => by
    unfold cntF
    split
    · omega
    · split
      · omega
      · exact cntF_le M k (f + 1) _ (by omega)
theorem cnt_le (M : List Nat) : cnt M ≤ 20 := cntF_le M 21 0 0 (by omega)
def S_X1_countFields (u : gx_S) (v0 : Nat) (post : Int32 → gx_S → Prop) : Prop := ∃ M : List Nat, byL u v0 M ∧ post (nI (cnt M)) u
theorem lp_X1_countFields {E : gx_E} (X : gx_X E cX1_countFields 3 RX1 (some .int)) (hd : 3 ≤ ex_d E) {post : Int32 → gx_S → Prop} (hQ : ex_Q E = va_Qi post (gx_B (ex_Z E)) (gx_A (ex_Z E))) {v0 : Nat} {M : List Nat} {u : gx_S} (hM : byL u v0 M) :
    ∀ (n f p : Nat), 21 - f = n → f ≤ 21 → p < 2 ^ 30 → post (nI (cntF M n f p)) u → J_X1_countFields_4 E v0 (nI p) (nI f) u := by
  have hM2 := hM.2.2.2.2.1
  intro n
  induction n with
  | zero =>
    intro f p hn hf hp h
    refine w_X1_countFields_4 X hd hQ ⟨fun _ => h, fun q => absurd (nI_lt (a := 20) (by omega) (by omega)) q⟩
  | succ n ih =>
    intro f p hn hf hp h
    unfold cntF at h
    refine w_X1_countFields_4 X hd hQ ⟨fun q => absurd q (nI_nlt (b := f) (a := 20) (by omega) (by omega)), fun _ => i_X1_fieldsEndAt hM hp ⟨fun q => ⟨M, p, hM, hp, rfl, ⟨fun q2 => ?_, fun q2 => ?_⟩⟩, fun q => ?_⟩⟩
    · rw [b2_0] at q
      rw [q] at h
      have q3 : ¬ nameLen M p = 0 := fun e => q2 (by rw [e]; rfl)
      rw [if_neg q3] at h
      refine ⟨M, p, hM, hp, rfl, ?_⟩
      rintro x7 rfl
      rw [nI_1]
      have := fst_le M p
      exact ih (f + 1) (fst_ M p) (by omega) (by omega) (by omega) (by simpa using h)
    · rw [b2_0] at q
      rw [q] at h
      have h20 := nameLen_le M p
      have q3 : nameLen M p = 0 := (nI_eq (b := 0) (by omega) (by omega)).mp q2
      rw [if_pos q3] at h
      exact h
    · rw [b2_n0 q] at h
      exact h
theorem w_X1_countFields {E : gx_E} (X : gx_X E cX1_countFields 3 RX1 (some .int)) (hd : 3 ≤ ex_d E) {post : Int32 → gx_S → Prop} (hQ : ex_Q E = va_Qi post (gx_B (ex_Z E)) (gx_A (ex_Z E))) {u : gx_S} {v0 : Nat} (h : S_X1_countFields u v0 post) : gx_Wc E 3 0 [(0, .ref (ex_ad E v0))] [] u := by
  obtain ⟨M, hM, hp⟩ := h
  exact w_X1_countFields_0 X hd hQ (lp_X1_countFields X hd hQ hM 21 0 0 (by omega) (by omega) (by omega) hp)
theorem c_X1_countFields {l : Launch} {Z : gx_Z} {u : gx_S} {v0 : Nat} {post : Int32 → gx_S → Prop} (h : S_X1_countFields u v0 post) : Met l yX1_countFields (Cond.code yX1_countFields cX1_countFields 3 (some .int) :: gx_TB) (gx_rm 3) (gx_Pre Z u [.ref (Z.2.1 v0)]) (va_Qi post (gx_B Z) (gx_A Z)) 0 0 (gx_A Z) := by
  refine gx_met (by decide +kernel) (Nat.le_of_ble_eq_true rfl) ?_
  intro E X hZ hQ hD hL
  subst hZ
  exact w_X1_countFields X (Nat.le_of_eq hD.symm) hQ h

-- PlainSeal$TagList.lettersLength(LPlainSeal$Bytes;I)I
theorem dX5_lettersLength_0 : decode cX5_lettersLength 0 = .ok (.iconst 0, 1) := by decide +kernel
theorem dX5_lettersLength_1 : decode cX5_lettersLength 1 = .ok (.istore_n 2, 1) := by decide +kernel
theorem dX5_lettersLength_2 : decode cX5_lettersLength 2 = .ok (.iload_n 2, 1) := by decide +kernel
theorem dX5_lettersLength_3 : decode cX5_lettersLength 3 = .ok (.bipush 8, 2) := by decide +kernel
theorem dX5_lettersLength_5 : decode cX5_lettersLength 5 = .ok (.if_icmp .ge 22, 3) := by decide +kernel
theorem dX5_lettersLength_8 : decode cX5_lettersLength 8 = .ok (.aload_n 0, 1) := by decide +kernel
theorem dX5_lettersLength_9 : decode cX5_lettersLength 9 = .ok (.iload_n 1, 1) := by decide +kernel
theorem dX5_lettersLength_10 : decode cX5_lettersLength 10 = .ok (.iload_n 2, 1) := by decide +kernel
theorem dX5_lettersLength_11 : decode cX5_lettersLength 11 = .ok (.iadd, 1) := by decide +kernel
theorem dX5_lettersLength_12 : decode cX5_lettersLength 12 = .ok (.invokevirtual 25, 3) := by decide +kernel
theorem dX5_lettersLength_15 : decode cX5_lettersLength 15 = .ok (.invokestatic 53, 3) := by decide +kernel
theorem dX5_lettersLength_18 : decode cX5_lettersLength 18 = .ok (.ifCond .eq 9, 3) := by decide +kernel
theorem dX5_lettersLength_21 : decode cX5_lettersLength 21 = .ok (.iinc 2 1, 3) := by decide +kernel
theorem dX5_lettersLength_24 : decode cX5_lettersLength 24 = .ok (.goto (-22), 3) := by decide +kernel
theorem dX5_lettersLength_27 : decode cX5_lettersLength 27 = .ok (.aload_n 0, 1) := by decide +kernel
theorem dX5_lettersLength_28 : decode cX5_lettersLength 28 = .ok (.iload_n 1, 1) := by decide +kernel
theorem dX5_lettersLength_29 : decode cX5_lettersLength 29 = .ok (.iload_n 2, 1) := by decide +kernel
theorem dX5_lettersLength_30 : decode cX5_lettersLength 30 = .ok (.iadd, 1) := by decide +kernel
theorem dX5_lettersLength_31 : decode cX5_lettersLength 31 = .ok (.invokevirtual 25, 3) := by decide +kernel
theorem dX5_lettersLength_34 : decode cX5_lettersLength 34 = .ok (.bipush 61, 2) := by decide +kernel
theorem dX5_lettersLength_36 : decode cX5_lettersLength 36 = .ok (.if_icmp .ne 7, 3) := by decide +kernel
theorem dX5_lettersLength_39 : decode cX5_lettersLength 39 = .ok (.iload_n 2, 1) := by decide +kernel
theorem dX5_lettersLength_40 : decode cX5_lettersLength 40 = .ok (.goto 4, 3) := by decide +kernel
theorem dX5_lettersLength_43 : decode cX5_lettersLength 43 = .ok (.iconst 0, 1) := by decide +kernel
theorem dX5_lettersLength_44 : decode cX5_lettersLength 44 = .ok (.ireturn, 1) := by decide +kernel
theorem hyX5_lettersLength : yX5_lettersLength.cls ≠ "java/lang/invoke/MethodHandle" ∧ yX5_lettersLength.cls ≠ "java/lang/invoke/VarHandle" ∧ (parseMethodDescriptor yX5_lettersLength.desc).map (fun d => d.parameters.length) = some 2 := by decide +kernel
abbrev J_X5_lettersLength_2 (E : gx_E) (v0 : Nat) (v1 : Int32) (v2 : Int32) (u : gx_S) : Prop := gx_Wc E 3 2 [(0, .ref (ex_ad E v0)), (1, .int v1), (2, .int v2)] [] u
set_option maxHeartbeats 4000000 in
set_option maxRecDepth 100000 in
theorem w_X5_lettersLength_0 {E : gx_E} (X : gx_X E cX5_lettersLength 3 RX5 (some .int)) (hd : 1 ≤ ex_d E) {post : Int32 → gx_S → Prop} (hQ : ex_Q E = va_Qi post (gx_B (ex_Z E)) (gx_A (ex_Z E))) {u : gx_S} {v0 : Nat} {v1 : Int32} (h : J_X5_lettersLength_2 E v0 v1 (0 : Int32) u) : gx_Wc E 3 0 [(0, .ref (ex_ad E v0)), (1, .int v1)] [] u := by
  refine gx_iconst X (v := 0) dX5_lettersLength_0 (by decide) ?_
  refine gx_istore_n X (lv' := [(2, .int (0 : Int32)), (0, .ref (ex_ad E v0)), (1, .int v1)]) dX5_lettersLength_1 rfl (by decide) rfl ?_
  exact gx_sub [1, 2, 0] rfl h
set_option maxHeartbeats 4000000 in
set_option maxRecDepth 100000 in
theorem w_X5_lettersLength_2 {E : gx_E} (X : gx_X E cX5_lettersLength 3 RX5 (some .int)) (hd : 1 ≤ ex_d E) {post : Int32 → gx_S → Prop} (hQ : ex_Q E = va_Qi post (gx_B (ex_Z E)) (gx_A (ex_Z E))) {u : gx_S} {v0 : Nat} {v1 : Int32} {v2 : Int32} (h : (((8 : Int32) ≤ v2 → (gx_isO v0 0 ∧ S_X0_at u v0 (v1 + v2) (fun (r3 : Int32) (u2 : gx_S) => ((¬ r3 = (61 : Int32) → post (0 : Int32) u2) ∧ (r3 = (61 : Int32) → post v2 u2))))) ∧ (¬ (8 : Int32) ≤ v2 → (gx_isO v0 0 ∧ S_X0_at u v0 (v1 + v2) (fun (r7 : Int32) (u6 : gx_S) => (S_X6_isSmallLetter u6 r7 (fun (r9 : Int32) (u8 : gx_S) => ((r9 = 0 → (S_X0_at u8 v0 (v1 + v2) (fun (r11 : Int32) (u10 : gx_S) => ((¬ r11 = (61 : Int32) → post (0 : Int32) u10) ∧ (r11 = (61 : Int32) → post v2 u10))))) ∧ (¬ r9 = 0 → (∀ x13 : Int32, x13 = v2 + 1 → J_X5_lettersLength_2 E v0 v1 x13 u8)))))))))) : gx_Wc E 3 2 [(0, .ref (ex_ad E v0)), (1, .int v1), (2, .int v2)] [] u := by
  refine gx_iload_n X (j := 2) dX5_lettersLength_2 rfl rfl ?_
  refine gx_bipush X (v := 8) dX5_lettersLength_3 (by decide) ?_
  refine gx_icmp_ge X (tgt := 27) dX5_lettersLength_5 (by decide) (fun c15 => ?_) (fun c15 => ?_)
  · replace h := h.1 c15
    refine gx_aload_n X (j := 0) dX5_lettersLength_27 rfl rfl ?_
    refine gx_iload_n X (j := 1) dX5_lettersLength_28 rfl rfl ?_
    refine gx_iload_n X (j := 2) dX5_lettersLength_29 rfl rfl ?_
    refine gx_iadd X dX5_lettersLength_30 ?_
    obtain ⟨k1, h⟩ := h
    refine gx_ki (gx_rV X (c_X0_at h) (Nat.le_trans (by decide) hd) (Nat.le_trans (by decide) (Nat.mul_le_mul_left 40 hd)) k1 rfl mw_270 mw_163 mw_164 mw_2 mw_165 hyX0_at (As := [.int (v1 + v2)]) (rest := []) rfl rfl (Nat.le_of_ble_eq_true rfl) dX5_lettersLength_31) (fun r3 u2 h => ?_)
    refine gx_bipush X (v := 61) dX5_lettersLength_34 (by decide) ?_
    refine gx_icmp_ne X (tgt := 43) dX5_lettersLength_36 (by decide) (fun c4 => ?_) (fun c4 => ?_)
    · replace h := h.1 c4
      refine gx_iconst X (v := 0) dX5_lettersLength_43 (by decide) ?_
      exact gx_iret X hQ h dX5_lettersLength_44
    · replace h := h.2 c4
      refine gx_iload_n X (j := 2) dX5_lettersLength_39 rfl rfl ?_
      refine gx_goto X (tgt := 44) dX5_lettersLength_40 (by decide) ?_
      exact gx_iret X hQ h dX5_lettersLength_44
  · replace h := h.2 c15
    refine gx_aload_n X (j := 0) dX5_lettersLength_8 rfl rfl ?_
    refine gx_iload_n X (j := 1) dX5_lettersLength_9 rfl rfl ?_
    refine gx_iload_n X (j := 2) dX5_lettersLength_10 rfl rfl ?_
    refine gx_iadd X dX5_lettersLength_11 ?_
    obtain ⟨k5, h⟩ := h
    refine gx_ki (gx_rV X (c_X0_at h) (Nat.le_trans (by decide) hd) (Nat.le_trans (by decide) (Nat.mul_le_mul_left 40 hd)) k5 rfl mw_270 mw_163 mw_164 mw_2 mw_165 hyX0_at (As := [.int (v1 + v2)]) (rest := []) rfl rfl (Nat.le_of_ble_eq_true rfl) dX5_lettersLength_12) (fun r7 u6 h => ?_)
    refine gx_ki (gx_rSN X (c_X6_isSmallLetter h) (Nat.le_trans (by decide) hd) (Nat.le_trans (by decide) (Nat.mul_le_mul_left 40 hd)) mn_6 mw_173 mw_1 mw_174 hyX6_isSmallLetter (As := [.int r7]) (rest := []) rfl rfl (Nat.le_of_ble_eq_true rfl) dX5_lettersLength_15) (fun r9 u8 h => ?_)
    refine gx_if_eq X (tgt := 27) dX5_lettersLength_18 (by decide) (fun c14 => ?_) (fun c14 => ?_)
    · replace h := h.1 c14
      refine gx_aload_n X (j := 0) dX5_lettersLength_27 rfl rfl ?_
      refine gx_iload_n X (j := 1) dX5_lettersLength_28 rfl rfl ?_
      refine gx_iload_n X (j := 2) dX5_lettersLength_29 rfl rfl ?_
      refine gx_iadd X dX5_lettersLength_30 ?_
      refine gx_ki (gx_rV X (c_X0_at h) (Nat.le_trans (by decide) hd) (Nat.le_trans (by decide) (Nat.mul_le_mul_left 40 hd)) k5 rfl mw_270 mw_163 mw_164 mw_2 mw_165 hyX0_at (As := [.int (v1 + v2)]) (rest := []) rfl rfl (Nat.le_of_ble_eq_true rfl) dX5_lettersLength_31) (fun r11 u10 h => ?_)
      refine gx_bipush X (v := 61) dX5_lettersLength_34 (by decide) ?_
      refine gx_icmp_ne X (tgt := 43) dX5_lettersLength_36 (by decide) (fun c12 => ?_) (fun c12 => ?_)
      · replace h := h.1 c12
        refine gx_iconst X (v := 0) dX5_lettersLength_43 (by decide) ?_
        exact gx_iret X hQ h dX5_lettersLength_44
      · replace h := h.2 c12
        refine gx_iload_n X (j := 2) dX5_lettersLength_39 rfl rfl ?_
        refine gx_goto X (tgt := 44) dX5_lettersLength_40 (by decide) ?_
        exact gx_iret X hQ h dX5_lettersLength_44
    · replace h := h.2 c14
      obtain ⟨x13, ex13⟩ : ∃ y : Int32, y = v2 + 1 := ⟨_, rfl⟩
      replace h := h x13 ex13
      refine gx_iinc X (v := x13) (lv' := [(2, .int x13), (0, .ref (ex_ad E v0)), (1, .int v1)]) dX5_lettersLength_21 (j := 2) rfl (by rw [ex13]; rfl) (by decide) rfl ?_
      refine gx_goto X (tgt := 2) dX5_lettersLength_24 (by decide) ?_
      exact gx_sub [1, 2, 0] rfl h
-- PlainSeal$TagList.isSame(LPlainSeal$Bytes;ILPlainSeal$Bytes;II)Z
theorem dX5_isSame_0 : decode cX5_isSame 0 = .ok (.iconst 0, 1) := by decide +kernel
theorem dX5_isSame_1 : decode cX5_isSame 1 = .ok (.istore 5, 2) := by decide +kernel
theorem dX5_isSame_3 : decode cX5_isSame 3 = .ok (.iload 5, 2) := by decide +kernel
theorem dX5_isSame_5 : decode cX5_isSame 5 = .ok (.iload 4, 2) := by decide +kernel
theorem dX5_isSame_7 : decode cX5_isSame 7 = .ok (.if_icmp .ge 30, 3) := by decide +kernel
theorem dX5_isSame_10 : decode cX5_isSame 10 = .ok (.aload_n 0, 1) := by decide +kernel
theorem dX5_isSame_11 : decode cX5_isSame 11 = .ok (.iload_n 1, 1) := by decide +kernel
theorem dX5_isSame_12 : decode cX5_isSame 12 = .ok (.iload 5, 2) := by decide +kernel
theorem dX5_isSame_14 : decode cX5_isSame 14 = .ok (.iadd, 1) := by decide +kernel
theorem dX5_isSame_15 : decode cX5_isSame 15 = .ok (.invokevirtual 25, 3) := by decide +kernel
theorem dX5_isSame_18 : decode cX5_isSame 18 = .ok (.aload_n 2, 1) := by decide +kernel
theorem dX5_isSame_19 : decode cX5_isSame 19 = .ok (.iload_n 3, 1) := by decide +kernel
theorem dX5_isSame_20 : decode cX5_isSame 20 = .ok (.iload 5, 2) := by decide +kernel
theorem dX5_isSame_22 : decode cX5_isSame 22 = .ok (.iadd, 1) := by decide +kernel
theorem dX5_isSame_23 : decode cX5_isSame 23 = .ok (.invokevirtual 25, 3) := by decide +kernel
theorem dX5_isSame_26 : decode cX5_isSame 26 = .ok (.if_icmp .eq 5, 3) := by decide +kernel
theorem dX5_isSame_29 : decode cX5_isSame 29 = .ok (.iconst 0, 1) := by decide +kernel
theorem dX5_isSame_30 : decode cX5_isSame 30 = .ok (.ireturn, 1) := by decide +kernel
theorem dX5_isSame_31 : decode cX5_isSame 31 = .ok (.iinc 5 1, 3) := by decide +kernel
theorem dX5_isSame_34 : decode cX5_isSame 34 = .ok (.goto (-31), 3) := by decide +kernel
theorem dX5_isSame_37 : decode cX5_isSame 37 = .ok (.iconst 1, 1) := by decide +kernel
theorem dX5_isSame_38 : decode cX5_isSame 38 = .ok (.ireturn, 1) := by decide +kernel
theorem hyX5_isSame : yX5_isSame.cls ≠ "java/lang/invoke/MethodHandle" ∧ yX5_isSame.cls ≠ "java/lang/invoke/VarHandle" ∧ (parseMethodDescriptor yX5_isSame.desc).map (fun d => d.parameters.length) = some 5 := by decide +kernel
abbrev J_X5_isSame_3 (E : gx_E) (v0 : Nat) (v1 : Int32) (v2 : Nat) (v3 : Int32) (v4 : Int32) (v5 : Int32) (u : gx_S) : Prop := gx_Wc E 6 3 [(0, .ref (ex_ad E v0)), (1, .int v1), (2, .ref (ex_ad E v2)), (3, .int v3), (4, .int v4), (5, .int v5)] [] u
set_option maxHeartbeats 4000000 in
set_option maxRecDepth 100000 in
theorem w_X5_isSame_0 {E : gx_E} (X : gx_X E cX5_isSame 6 RX5 (some .boolean)) (hd : 1 ≤ ex_d E) {post : Int32 → gx_S → Prop} (hQ : ex_Q E = va_Qi post (gx_B (ex_Z E)) (gx_A (ex_Z E))) {u : gx_S} {v0 : Nat} {v1 : Int32} {v2 : Nat} {v3 : Int32} {v4 : Int32} (h : J_X5_isSame_3 E v0 v1 v2 v3 v4 (0 : Int32) u) : gx_Wc E 6 0 [(0, .ref (ex_ad E v0)), (1, .int v1), (2, .ref (ex_ad E v2)), (3, .int v3), (4, .int v4)] [] u := by
  refine gx_iconst X (v := 0) dX5_isSame_0 (by decide) ?_
  refine gx_istore X (lv' := [(5, .int (0 : Int32)), (0, .ref (ex_ad E v0)), (1, .int v1), (2, .ref (ex_ad E v2)), (3, .int v3), (4, .int v4)]) dX5_isSame_1 (by decide) rfl ?_
  exact gx_sub [1, 2, 3, 4, 5, 0] rfl h
set_option maxHeartbeats 4000000 in
set_option maxRecDepth 100000 in
theorem w_X5_isSame_3 {E : gx_E} (X : gx_X E cX5_isSame 6 RX5 (some .boolean)) (hd : 1 ≤ ex_d E) {post : Int32 → gx_S → Prop} (hQ : ex_Q E = va_Qi post (gx_B (ex_Z E)) (gx_A (ex_Z E))) {u : gx_S} {v0 : Nat} {v1 : Int32} {v2 : Nat} {v3 : Int32} {v4 : Int32} {v5 : Int32} (h : ((v4 ≤ v5 → post (1 : Int32) u) ∧ (¬ v4 ≤ v5 → (gx_isO v0 0 ∧ S_X0_at u v0 (v1 + v5) (fun (r3 : Int32) (u2 : gx_S) => (gx_isO v2 0 ∧ S_X0_at u2 v2 (v3 + v5) (fun (r6 : Int32) (u5 : gx_S) => ((r3 = r6 → (∀ x7 : Int32, x7 = v5 + 1 → J_X5_isSame_3 E v0 v1 v2 v3 v4 x7 u5)) ∧ (¬ r3 = r6 → post (0 : Int32) u5))))))))) : gx_Wc E 6 3 [(0, .ref (ex_ad E v0)), (1, .int v1), (2, .ref (ex_ad E v2)), (3, .int v3), (4, .int v4), (5, .int v5)] [] u := by
  refine gx_iload X (j := 5) dX5_isSame_3 rfl ?_
  refine gx_iload X (j := 4) dX5_isSame_5 rfl ?_
  refine gx_icmp_ge X (tgt := 37) dX5_isSame_7 (by decide) (fun c9 => ?_) (fun c9 => ?_)
  · replace h := h.1 c9
    refine gx_iconst X (v := 1) dX5_isSame_37 (by decide) ?_
    exact gx_zret X hQ rfl h dX5_isSame_38
  · replace h := h.2 c9
    refine gx_aload_n X (j := 0) dX5_isSame_10 rfl rfl ?_
    refine gx_iload_n X (j := 1) dX5_isSame_11 rfl rfl ?_
    refine gx_iload X (j := 5) dX5_isSame_12 rfl ?_
    refine gx_iadd X dX5_isSame_14 ?_
    obtain ⟨k1, h⟩ := h
    refine gx_ki (gx_rV X (c_X0_at h) (Nat.le_trans (by decide) hd) (Nat.le_trans (by decide) (Nat.mul_le_mul_left 40 hd)) k1 rfl mw_270 mw_163 mw_164 mw_2 mw_165 hyX0_at (As := [.int (v1 + v5)]) (rest := []) rfl rfl (Nat.le_of_ble_eq_true rfl) dX5_isSame_15) (fun r3 u2 h => ?_)
    refine gx_aload_n X (j := 2) dX5_isSame_18 rfl rfl ?_
    refine gx_iload_n X (j := 3) dX5_isSame_19 rfl rfl ?_
    refine gx_iload X (j := 5) dX5_isSame_20 rfl ?_
    refine gx_iadd X dX5_isSame_22 ?_
    obtain ⟨k4, h⟩ := h
    refine gx_ki (gx_rV X (c_X0_at h) (Nat.le_trans (by decide) hd) (Nat.le_trans (by decide) (Nat.mul_le_mul_left 40 hd)) k4 rfl mw_270 mw_163 mw_164 mw_2 mw_165 hyX0_at (As := [.int (v3 + v5)]) (rest := [.int r3]) rfl rfl (Nat.le_of_ble_eq_true rfl) dX5_isSame_23) (fun r6 u5 h => ?_)
    refine gx_icmp_eq X (tgt := 31) dX5_isSame_26 (by decide) (fun c8 => ?_) (fun c8 => ?_)
    · replace h := h.1 c8
      obtain ⟨x7, ex7⟩ : ∃ y : Int32, y = v5 + 1 := ⟨_, rfl⟩
      replace h := h x7 ex7
      refine gx_iinc X (v := x7) (lv' := [(5, .int x7), (0, .ref (ex_ad E v0)), (1, .int v1), (2, .ref (ex_ad E v2)), (3, .int v3), (4, .int v4)]) dX5_isSame_31 (j := 5) rfl (by rw [ex7]; rfl) (by decide) rfl ?_
      refine gx_goto X (tgt := 3) dX5_isSame_34 (by decide) ?_
      exact gx_sub [1, 2, 3, 4, 5, 0] rfl h
    · replace h := h.2 c8
      refine gx_iconst X (v := 0) dX5_isSame_29 (by decide) ?_
      exact gx_zret X hQ rfl h dX5_isSame_30
def lettLen (L : List Nat) (i : Nat) : Nat := if ch L (i + runF isS L 8 i) = 61 then runF isS L 8 i else 0
theorem lettLen_le (L : List Nat) (i : Nat) : lettLen L i ≤ 8 := by
  unfold lettLen
  have := runF_le isS L 8 i
  split <;> omega
def S_X5_lettersLength (u : gx_S) (v0 : Nat) (v1 : Int32) (post : Int32 → gx_S → Prop) : Prop := ∃ (M : List Nat) (i : Nat), byL u v0 M ∧ i < 2 ^ 30 ∧ v1 = nI i ∧ post (nI (lettLen M i)) u
theorem ll_end {u : gx_S} {v0 i k : Nat} {M : List Nat} {post : Int32 → gx_S → Prop} (hM : byL u v0 M) (hi : i < 2 ^ 30) (hk : k ≤ 8) (hr : runF isS M 8 i = k) (hp : post (nI (lettLen M i)) u) : S_X0_at u v0 (nI i + nI k) (fun (r3 : Int32) (u2 : gx_S) => ((¬ r3 = (61 : Int32) → post (0 : Int32) u2) ∧ (r3 = (61 : Int32) → post (nI k) u2))) := by
  rw [nI_add]
  unfold lettLen at hp
  rw [hr] at hp
  refine i_X0_at hM (by omega) ⟨fun q => ?_, fun q => ?_⟩
  · rw [if_neg (fun e => q ((cI_eq (k := 61) (by omega)).mpr e))] at hp; exact hp
  · rw [if_pos ((cI_eq (k := 61) (by omega)).mp q)] at hp; exact hp
theorem lp_X5_lettersLength {E : gx_E} (X : gx_X E cX5_lettersLength 3 RX5 (some .int)) (hd : 1 ≤ ex_d E) {post : Int32 → gx_S → Prop} (hQ : ex_Q E = va_Qi post (gx_B (ex_Z E)) (gx_A (ex_Z E))) {v0 i : Nat} {M : List Nat} {u : gx_S} (hM : byL u v0 M) (hi : i < 2 ^ 30) (hp : post (nI (lettLen M i)) u) :
    ∀ (n k : Nat), 8 - k = n → k ≤ 8 → runF isS M 8 i = k + runF isS M n (i + k) → J_X5_lettersLength_2 E v0 (nI i) (nI k) u := by
  intro n
  induction n with
  | zero =>
    intro k hn hk hr
    refine w_X5_lettersLength_2 X hd hQ ⟨fun _ => ⟨hM.1, ll_end hM hi hk hr hp⟩, fun q => absurd (nI_le (a := 8) (by omega) (by omega)) q⟩
  | succ n ih =>
    intro k hn hk hr
    refine w_X5_lettersLength_2 X hd hQ ⟨fun q => absurd q (nI_ge (b := 8) (by omega) (by omega)), fun _ => ⟨hM.1, ?_⟩⟩
    rw [nI_add]
    refine i_X0_at hM (by omega) (i_X6_isSmallLetter ⟨fun q => ?_, fun q => ?_⟩ (ch_alt hM.2.2.2.2.2.1 _))
    · rw [b2_0] at q
      have e : runF isS M (n + 1) (i + k) = 0 := by rw [runF, if_neg (by rw [q]; decide)]
      rw [e] at hr
      have := ll_end hM hi hk hr hp
      rwa [nI_add] at this
    · have q2 := b2_n0 q
      rintro x13 rfl
      rw [nI_1]
      have e : runF isS M (n + 1) (i + k) = runF isS M n (i + k + 1) + 1 := by rw [runF, if_pos q2]
      exact ih (k + 1) (by omega) (by omega) (by rw [hr, e]; rw [show i + k + 1 = i + (k + 1) by omega]; omega)
theorem w_X5_lettersLength {E : gx_E} (X : gx_X E cX5_lettersLength 3 RX5 (some .int)) (hd : 1 ≤ ex_d E) {post : Int32 → gx_S → Prop} (hQ : ex_Q E = va_Qi post (gx_B (ex_Z E)) (gx_A (ex_Z E))) {u : gx_S} {v0 : Nat} {v1 : Int32} (h : S_X5_lettersLength u v0 v1 post) : gx_Wc E 3 0 [(0, .ref (ex_ad E v0)), (1, .int v1)] [] u := by
  obtain ⟨M, i, hM, hi, rfl, hp⟩ := h
  exact w_X5_lettersLength_0 X hd hQ (lp_X5_lettersLength X hd hQ hM hi hp 8 0 (by omega) (by omega) (by simp))
theorem c_X5_lettersLength {l : Launch} {Z : gx_Z} {u : gx_S} {v0 : Nat} {v1 : Int32} {post : Int32 → gx_S → Prop} (h : S_X5_lettersLength u v0 v1 post) : Met l yX5_lettersLength (Cond.code yX5_lettersLength cX5_lettersLength 3 (some .int) :: gx_TB) (gx_rm 1) (gx_Pre Z u [.ref (Z.2.1 v0), .int v1]) (va_Qi post (gx_B Z) (gx_A Z)) 0 0 (gx_A Z) := by
  refine gx_met (by decide +kernel) (Nat.le_of_ble_eq_true rfl) ?_
  intro E X hZ hQ hD hL
  subst hZ
  exact w_X5_lettersLength X (Nat.le_of_eq hD.symm) hQ h
def samF (M : List Nat) (p : Nat) (N : List Nat) (q : Nat) : Nat → Nat → Bool
  | 0, _ => true
  | k + 1, i => if ch M (p + i) = ch N (q + i) then samF M p N q k (i + 1) else false
def S_X5_isSame (u : gx_S) (v0 : Nat) (v1 : Int32) (v2 : Nat) (v3 v4 : Int32) (post : Int32 → gx_S → Prop) : Prop := ∃ (M N : List Nat) (p q n : Nat), byL u v0 M ∧ byL u v2 N ∧ p < 2 ^ 29 ∧ q < 2 ^ 29 ∧ n < 2 ^ 29 ∧ v1 = nI p ∧ v3 = nI q ∧ v4 = nI n ∧ post (b2 (samF M p N q n 0)) u
theorem lp_X5_isSame {E : gx_E} (X : gx_X E cX5_isSame 6 RX5 (some .boolean)) (hd : 1 ≤ ex_d E) {post : Int32 → gx_S → Prop} (hQ : ex_Q E = va_Qi post (gx_B (ex_Z E)) (gx_A (ex_Z E))) {v0 v2 p q n : Nat} {M N : List Nat} {u : gx_S} (hM : byL u v0 M) (hN : byL u v2 N) (hp : p < 2 ^ 29) (hq : q < 2 ^ 29) (hn : n < 2 ^ 29) :
    ∀ (k i : Nat), n - i = k → i ≤ n → post (b2 (samF M p N q k i)) u → J_X5_isSame_3 E v0 (nI p) v2 (nI q) (nI n) (nI i) u := by
  intro k
  induction k with
  | zero =>
    intro i hk hi h
    refine w_X5_isSame_3 X hd hQ ⟨fun _ => h, fun z => absurd (nI_le (by omega) (by omega)) z⟩
  | succ k ih =>
    intro i hk hi h
    unfold samF at h
    refine w_X5_isSame_3 X hd hQ ⟨fun z => absurd z (nI_ge (by omega) (by omega)), fun _ => ⟨hM.1, ?_⟩⟩
    rw [nI_add, nI_add]
    have a1 := ch_alt hM.2.2.2.2.2.1 (p + i)
    have a2 := ch_alt hN.2.2.2.2.2.1 (q + i)
    refine i_X0_at hM (by omega) ⟨hN.1, i_X0_at hN (by omega) ⟨fun z => ?_, fun z => ?_⟩⟩
    · rintro x7 rfl
      rw [nI_1]
      rw [if_pos ((cI_inj a1 a2).mp z)] at h
      exact ih (i + 1) (by omega) (by omega) h
    · rw [if_neg (fun e => z ((cI_inj a1 a2).mpr e))] at h
      exact h
theorem w_X5_isSame {E : gx_E} (X : gx_X E cX5_isSame 6 RX5 (some .boolean)) (hd : 1 ≤ ex_d E) {post : Int32 → gx_S → Prop} (hQ : ex_Q E = va_Qi post (gx_B (ex_Z E)) (gx_A (ex_Z E))) {u : gx_S} {v0 : Nat} {v1 : Int32} {v2 : Nat} {v3 v4 : Int32} (h : S_X5_isSame u v0 v1 v2 v3 v4 post) : gx_Wc E 6 0 [(0, .ref (ex_ad E v0)), (1, .int v1), (2, .ref (ex_ad E v2)), (3, .int v3), (4, .int v4)] [] u := by
  obtain ⟨M, N, p, q, n, hM, hN, hp, hq, hn, rfl, rfl, rfl, h⟩ := h
  exact w_X5_isSame_0 X hd hQ (lp_X5_isSame X hd hQ hM hN hp hq hn n 0 (by omega) (by omega) h)
theorem c_X5_isSame {l : Launch} {Z : gx_Z} {u : gx_S} {v0 : Nat} {v1 : Int32} {v2 : Nat} {v3 : Int32} {v4 : Int32} {post : Int32 → gx_S → Prop} (h : S_X5_isSame u v0 v1 v2 v3 v4 post) : Met l yX5_isSame (Cond.code yX5_isSame cX5_isSame 6 (some .boolean) :: gx_TB) (gx_rm 1) (gx_Pre Z u [.ref (Z.2.1 v0), .int v1, .ref (Z.2.1 v2), .int v3, .int v4]) (va_Qi post (gx_B Z) (gx_A Z)) 0 0 (gx_A Z) := by
  refine gx_met (by decide +kernel) (Nat.le_of_ble_eq_true rfl) ?_
  intro E X hZ hQ hD hL
  subst hZ
  exact w_X5_isSame X (Nat.le_of_eq hD.symm) hQ h
-- PlainSeal$TagList.valueOf(LPlainSeal$Bytes;ILPlainSeal$Bytes;II)I
theorem dX5_valueOf_0 : decode cX5_valueOf 0 = .ok (.iconst 0, 1) := by decide +kernel
theorem dX5_valueOf_1 : decode cX5_valueOf 1 = .ok (.istore 5, 2) := by decide +kernel
theorem dX5_valueOf_3 : decode cX5_valueOf 3 = .ok (.iconst 0, 1) := by decide +kernel
theorem dX5_valueOf_4 : decode cX5_valueOf 4 = .ok (.istore 6, 2) := by decide +kernel
theorem dX5_valueOf_6 : decode cX5_valueOf 6 = .ok (.iload 6, 2) := by decide +kernel
theorem dX5_valueOf_8 : decode cX5_valueOf 8 = .ok (.bipush 40, 2) := by decide +kernel
theorem dX5_valueOf_10 : decode cX5_valueOf 10 = .ok (.if_icmp .ge 59, 3) := by decide +kernel
theorem dX5_valueOf_13 : decode cX5_valueOf 13 = .ok (.iload 5, 2) := by decide +kernel
theorem dX5_valueOf_15 : decode cX5_valueOf 15 = .ok (.iload_n 1, 1) := by decide +kernel
theorem dX5_valueOf_16 : decode cX5_valueOf 16 = .ok (.if_icmp .ge 53, 3) := by decide +kernel
theorem dX5_valueOf_19 : decode cX5_valueOf 19 = .ok (.aload_n 0, 1) := by decide +kernel
theorem dX5_valueOf_20 : decode cX5_valueOf 20 = .ok (.iload 5, 2) := by decide +kernel
theorem dX5_valueOf_22 : decode cX5_valueOf 22 = .ok (.invokestatic 41, 3) := by decide +kernel
theorem dX5_valueOf_25 : decode cX5_valueOf 25 = .ok (.iload 4, 2) := by decide +kernel
theorem dX5_valueOf_27 : decode cX5_valueOf 27 = .ok (.if_icmp .ne 24, 3) := by decide +kernel
theorem dX5_valueOf_30 : decode cX5_valueOf 30 = .ok (.aload_n 0, 1) := by decide +kernel
theorem dX5_valueOf_31 : decode cX5_valueOf 31 = .ok (.iload 5, 2) := by decide +kernel
theorem dX5_valueOf_33 : decode cX5_valueOf 33 = .ok (.aload_n 2, 1) := by decide +kernel
theorem dX5_valueOf_34 : decode cX5_valueOf 34 = .ok (.iload_n 3, 1) := by decide +kernel
theorem dX5_valueOf_35 : decode cX5_valueOf 35 = .ok (.iload 4, 2) := by decide +kernel
theorem dX5_valueOf_37 : decode cX5_valueOf 37 = .ok (.invokestatic 57, 3) := by decide +kernel
theorem dX5_valueOf_40 : decode cX5_valueOf 40 = .ok (.ifCond .eq 11, 3) := by decide +kernel
theorem dX5_valueOf_43 : decode cX5_valueOf 43 = .ok (.iload 5, 2) := by decide +kernel
theorem dX5_valueOf_45 : decode cX5_valueOf 45 = .ok (.iload 4, 2) := by decide +kernel
theorem dX5_valueOf_47 : decode cX5_valueOf 47 = .ok (.iadd, 1) := by decide +kernel
theorem dX5_valueOf_48 : decode cX5_valueOf 48 = .ok (.iconst 1, 1) := by decide +kernel
theorem dX5_valueOf_49 : decode cX5_valueOf 49 = .ok (.iadd, 1) := by decide +kernel
theorem dX5_valueOf_50 : decode cX5_valueOf 50 = .ok (.ireturn, 1) := by decide +kernel
theorem dX5_valueOf_51 : decode cX5_valueOf 51 = .ok (.aload_n 0, 1) := by decide +kernel
theorem dX5_valueOf_52 : decode cX5_valueOf 52 = .ok (.bipush 59, 2) := by decide +kernel
theorem dX5_valueOf_54 : decode cX5_valueOf 54 = .ok (.iload 5, 2) := by decide +kernel
theorem dX5_valueOf_56 : decode cX5_valueOf 56 = .ok (.invokevirtual 49, 3) := by decide +kernel
theorem dX5_valueOf_59 : decode cX5_valueOf 59 = .ok (.iconst 1, 1) := by decide +kernel
theorem dX5_valueOf_60 : decode cX5_valueOf 60 = .ok (.iadd, 1) := by decide +kernel
theorem dX5_valueOf_61 : decode cX5_valueOf 61 = .ok (.istore 5, 2) := by decide +kernel
theorem dX5_valueOf_63 : decode cX5_valueOf 63 = .ok (.iinc 6 1, 3) := by decide +kernel
theorem dX5_valueOf_66 : decode cX5_valueOf 66 = .ok (.goto (-60), 3) := by decide +kernel
theorem dX5_valueOf_69 : decode cX5_valueOf 69 = .ok (.bipush (-2), 2) := by decide +kernel
theorem dX5_valueOf_71 : decode cX5_valueOf 71 = .ok (.ireturn, 1) := by decide +kernel
theorem hyX5_valueOf : yX5_valueOf.cls ≠ "java/lang/invoke/MethodHandle" ∧ yX5_valueOf.cls ≠ "java/lang/invoke/VarHandle" ∧ (parseMethodDescriptor yX5_valueOf.desc).map (fun d => d.parameters.length) = some 5 := by decide +kernel
abbrev J_X5_valueOf_6 (E : gx_E) (v0 : Nat) (v1 : Int32) (v2 : Nat) (v3 : Int32) (v4 : Int32) (v5 : Int32) (v6 : Int32) (u : gx_S) : Prop := gx_Wc E 7 6 [(0, .ref (ex_ad E v0)), (1, .int v1), (2, .ref (ex_ad E v2)), (3, .int v3), (4, .int v4), (5, .int v5), (6, .int v6)] [] u
set_option maxHeartbeats 4000000 in
set_option maxRecDepth 100000 in
theorem w_X5_valueOf_0 {E : gx_E} (X : gx_X E cX5_valueOf 7 RX5 (some .int)) (hd : 2 ≤ ex_d E) {post : Int32 → gx_S → Prop} (hQ : ex_Q E = va_Qi post (gx_B (ex_Z E)) (gx_A (ex_Z E))) {u : gx_S} {v0 : Nat} {v1 : Int32} {v2 : Nat} {v3 : Int32} {v4 : Int32} (h : J_X5_valueOf_6 E v0 v1 v2 v3 v4 (0 : Int32) (0 : Int32) u) : gx_Wc E 7 0 [(0, .ref (ex_ad E v0)), (1, .int v1), (2, .ref (ex_ad E v2)), (3, .int v3), (4, .int v4)] [] u := by
  refine gx_iconst X (v := 0) dX5_valueOf_0 (by decide) ?_
  refine gx_istore X (lv' := [(5, .int (0 : Int32)), (0, .ref (ex_ad E v0)), (1, .int v1), (2, .ref (ex_ad E v2)), (3, .int v3), (4, .int v4)]) dX5_valueOf_1 (by decide) rfl ?_
  refine gx_iconst X (v := 0) dX5_valueOf_3 (by decide) ?_
  refine gx_istore X (lv' := [(6, .int (0 : Int32)), (5, .int (0 : Int32)), (0, .ref (ex_ad E v0)), (1, .int v1), (2, .ref (ex_ad E v2)), (3, .int v3), (4, .int v4)]) dX5_valueOf_4 (by decide) rfl ?_
  exact gx_sub [2, 3, 4, 5, 6, 1, 0] rfl h
set_option maxHeartbeats 4000000 in
set_option maxRecDepth 100000 in
theorem w_X5_valueOf_6 {E : gx_E} (X : gx_X E cX5_valueOf 7 RX5 (some .int)) (hd : 2 ≤ ex_d E) {post : Int32 → gx_S → Prop} (hQ : ex_Q E = va_Qi post (gx_B (ex_Z E)) (gx_A (ex_Z E))) {u : gx_S} {v0 : Nat} {v1 : Int32} {v2 : Nat} {v3 : Int32} {v4 : Int32} {v5 : Int32} {v6 : Int32} (h : (((40 : Int32) ≤ v6 → post (-2 : Int32) u) ∧ (¬ (40 : Int32) ≤ v6 → ((v1 ≤ v5 → post (-2 : Int32) u) ∧ (¬ v1 ≤ v5 → (S_X5_lettersLength u v0 v5 (fun (r2 : Int32) (u1 : gx_S) => ((¬ r2 = v4 → (gx_isO v0 0 ∧ S_X0_find u1 v0 (59 : Int32) v5 (fun (r5 : Int32) (u4 : gx_S) => (∀ x6 : Int32, x6 = (r5 + (1 : Int32)) → (∀ x7 : Int32, x7 = v6 + 1 → J_X5_valueOf_6 E v0 v1 v2 v3 v4 x6 x7 u4))))) ∧ (r2 = v4 → (S_X5_isSame u1 v0 v5 v2 v3 v4 (fun (r9 : Int32) (u8 : gx_S) => ((r9 = 0 → (gx_isO v0 0 ∧ S_X0_find u8 v0 (59 : Int32) v5 (fun (r12 : Int32) (u11 : gx_S) => (∀ x13 : Int32, x13 = (r12 + (1 : Int32)) → (∀ x14 : Int32, x14 = v6 + 1 → J_X5_valueOf_6 E v0 v1 v2 v3 v4 x13 x14 u11))))) ∧ (¬ r9 = 0 → post ((v5 + v4) + (1 : Int32)) u8))))))))))))) : gx_Wc E 7 6 [(0, .ref (ex_ad E v0)), (1, .int v1), (2, .ref (ex_ad E v2)), (3, .int v3), (4, .int v4), (5, .int v5), (6, .int v6)] [] u := by
  refine gx_iload X (j := 6) dX5_valueOf_6 rfl ?_
  refine gx_bipush X (v := 40) dX5_valueOf_8 (by decide) ?_
  refine gx_icmp_ge X (tgt := 69) dX5_valueOf_10 (by decide) (fun c18 => ?_) (fun c18 => ?_)
  · replace h := h.1 c18
    refine gx_bipush X (v := -2) dX5_valueOf_69 (by decide) ?_
    exact gx_iret X hQ h dX5_valueOf_71
  · replace h := h.2 c18
    refine gx_iload X (j := 5) dX5_valueOf_13 rfl ?_
    refine gx_iload_n X (j := 1) dX5_valueOf_15 rfl rfl ?_
    refine gx_icmp_ge X (tgt := 69) dX5_valueOf_16 (by decide) (fun c17 => ?_) (fun c17 => ?_)
    · replace h := h.1 c17
      refine gx_bipush X (v := -2) dX5_valueOf_69 (by decide) ?_
      exact gx_iret X hQ h dX5_valueOf_71
    · replace h := h.2 c17
      refine gx_aload_n X (j := 0) dX5_valueOf_19 rfl rfl ?_
      refine gx_iload X (j := 5) dX5_valueOf_20 rfl ?_
      refine gx_ki (gx_rS X (c_X5_lettersLength h) (Nat.le_trans (by decide) hd) (Nat.le_trans (by decide) (Nat.mul_le_mul_left 40 hd)) mw_275 mw_276 mw_4 mw_277 hyX5_lettersLength (As := [.ref (ex_ad E v0), .int v5]) (rest := []) rfl rfl (Nat.le_of_ble_eq_true rfl) dX5_valueOf_22) (fun r2 u1 h => ?_)
      refine gx_iload X (j := 4) dX5_valueOf_25 rfl ?_
      refine gx_icmp_ne X (tgt := 51) dX5_valueOf_27 (by decide) (fun c16 => ?_) (fun c16 => ?_)
      · replace h := h.1 c16
        refine gx_aload_n X (j := 0) dX5_valueOf_51 rfl rfl ?_
        refine gx_bipush X (v := 59) dX5_valueOf_52 (by decide) ?_
        refine gx_iload X (j := 5) dX5_valueOf_54 rfl ?_
        obtain ⟨k3, h⟩ := h
        refine gx_ki (gx_rV X (c_X0_find h) (Nat.le_trans (by decide) hd) (Nat.le_trans (by decide) (Nat.mul_le_mul_left 40 hd)) k3 rfl mw_285 mw_286 mw_287 mw_2 mw_288 hyX0_find (As := [.int (59 : Int32), .int v5]) (rest := []) rfl rfl (Nat.le_of_ble_eq_true rfl) dX5_valueOf_56) (fun r5 u4 h => ?_)
        refine gx_iconst X (v := 1) dX5_valueOf_59 (by decide) ?_
        refine gx_iadd X dX5_valueOf_60 ?_
        refine gx_nami (fun x6 ex6 => ?_)
        replace h := h x6 ex6
        refine gx_istore X (lv' := [(5, .int x6), (0, .ref (ex_ad E v0)), (1, .int v1), (2, .ref (ex_ad E v2)), (3, .int v3), (4, .int v4), (6, .int v6)]) dX5_valueOf_61 (by decide) rfl ?_
        obtain ⟨x7, ex7⟩ : ∃ y : Int32, y = v6 + 1 := ⟨_, rfl⟩
        replace h := h x7 ex7
        refine gx_iinc X (v := x7) (lv' := [(6, .int x7), (5, .int x6), (0, .ref (ex_ad E v0)), (1, .int v1), (2, .ref (ex_ad E v2)), (3, .int v3), (4, .int v4)]) dX5_valueOf_63 (j := 6) rfl (by rw [ex7]; rfl) (by decide) rfl ?_
        refine gx_goto X (tgt := 6) dX5_valueOf_66 (by decide) ?_
        exact gx_sub [2, 3, 4, 5, 6, 1, 0] rfl h
      · replace h := h.2 c16
        refine gx_aload_n X (j := 0) dX5_valueOf_30 rfl rfl ?_
        refine gx_iload X (j := 5) dX5_valueOf_31 rfl ?_
        refine gx_aload_n X (j := 2) dX5_valueOf_33 rfl rfl ?_
        refine gx_iload_n X (j := 3) dX5_valueOf_34 rfl rfl ?_
        refine gx_iload X (j := 4) dX5_valueOf_35 rfl ?_
        refine gx_ki (gx_rS X (c_X5_isSame h) (Nat.le_trans (by decide) hd) (Nat.le_trans (by decide) (Nat.mul_le_mul_left 40 hd)) mw_282 mw_283 mw_4 mw_284 hyX5_isSame (As := [.ref (ex_ad E v0), .int v5, .ref (ex_ad E v2), .int v3, .int v4]) (rest := []) rfl rfl (Nat.le_of_ble_eq_true rfl) dX5_valueOf_37) (fun r9 u8 h => ?_)
        refine gx_if_eq X (tgt := 51) dX5_valueOf_40 (by decide) (fun c15 => ?_) (fun c15 => ?_)
        · replace h := h.1 c15
          refine gx_aload_n X (j := 0) dX5_valueOf_51 rfl rfl ?_
          refine gx_bipush X (v := 59) dX5_valueOf_52 (by decide) ?_
          refine gx_iload X (j := 5) dX5_valueOf_54 rfl ?_
          obtain ⟨k10, h⟩ := h
          refine gx_ki (gx_rV X (c_X0_find h) (Nat.le_trans (by decide) hd) (Nat.le_trans (by decide) (Nat.mul_le_mul_left 40 hd)) k10 rfl mw_285 mw_286 mw_287 mw_2 mw_288 hyX0_find (As := [.int (59 : Int32), .int v5]) (rest := []) rfl rfl (Nat.le_of_ble_eq_true rfl) dX5_valueOf_56) (fun r12 u11 h => ?_)
          refine gx_iconst X (v := 1) dX5_valueOf_59 (by decide) ?_
          refine gx_iadd X dX5_valueOf_60 ?_
          refine gx_nami (fun x13 ex13 => ?_)
          replace h := h x13 ex13
          refine gx_istore X (lv' := [(5, .int x13), (0, .ref (ex_ad E v0)), (1, .int v1), (2, .ref (ex_ad E v2)), (3, .int v3), (4, .int v4), (6, .int v6)]) dX5_valueOf_61 (by decide) rfl ?_
          obtain ⟨x14, ex14⟩ : ∃ y : Int32, y = v6 + 1 := ⟨_, rfl⟩
          replace h := h x14 ex14
          refine gx_iinc X (v := x14) (lv' := [(6, .int x14), (5, .int x13), (0, .ref (ex_ad E v0)), (1, .int v1), (2, .ref (ex_ad E v2)), (3, .int v3), (4, .int v4)]) dX5_valueOf_63 (j := 6) rfl (by rw [ex14]; rfl) (by decide) rfl ?_
          refine gx_goto X (tgt := 6) dX5_valueOf_66 (by decide) ?_
          exact gx_sub [2, 3, 4, 5, 6, 1, 0] rfl h
        · replace h := h.2 c15
          refine gx_iload X (j := 5) dX5_valueOf_43 rfl ?_
          refine gx_iload X (j := 4) dX5_valueOf_45 rfl ?_
          refine gx_iadd X dX5_valueOf_47 ?_
          refine gx_iconst X (v := 1) dX5_valueOf_48 (by decide) ?_
          refine gx_iadd X dX5_valueOf_49 ?_
          exact gx_iret X hQ h dX5_valueOf_50
theorem fndF_le (M : List Nat) (c : Nat) : ∀ k i, k = M.length - i → fndF M c k i ≤ M.length
  | 0, _, _ => Nat.le_refl _
  | k + 1, i, h => by
    unfold fndF
    split
    · omega
    · exact fndF_le M c k (i + 1) (by omega)
theorem fnd_le (M : List Nat) (c i : Nat) : fnd M c i ≤ M.length := fndF_le M c _ i rfl
def oI (x : Option Nat) : Int32 := match x with
  | some n => nI n
  | none => -2
def voF (M : List Nat) (bef : Nat) (N : List Nat) (q n : Nat) : Nat → Nat → Option Nat
  | 0, _ => none
  | k + 1, p => if bef ≤ p then none else if lettLen M p = n ∧ samF M p N q n 0 = true then some (p + n + 1) else voF M bef N q n k (fnd M 59 p + 1)
/-- where the value begins of the tag whose letters stand in N at q -/
def vo (M : List Nat) (bef : Nat) (N : List Nat) (q n : Nat) : Option Nat := voF M bef N q n 40 0
theorem voF_lt {M : List Nat} {bef : Nat} {N : List Nat} {q n v : Nat} : ∀ k p, voF M bef N q n k p = some v → v < bef + n + 1
  | 0, _, h => by cases h
  | k + 1, p, h => by
    unfold voF at h
    split at h
    · cases h
    · split at h
      · cases h; omega
      · exact voF_lt k _ h
def S_X5_valueOf (u : gx_S) (v0 : Nat) (v1 : Int32) (v2 : Nat) (v3 v4 : Int32) (post : Int32 → gx_S → Prop) : Prop := ∃ (M N : List Nat) (bef q n : Nat), byL u v0 M ∧ byL u v2 N ∧ bef < 2 ^ 28 ∧ q < 2 ^ 28 ∧ n < 2 ^ 28 ∧ v1 = nI bef ∧ v3 = nI q ∧ v4 = nI n ∧ post (oI (vo M bef N q n)) u
theorem lp_X5_valueOf {E : gx_E} (X : gx_X E cX5_valueOf 7 RX5 (some .int)) (hd : 2 ≤ ex_d E) {post : Int32 → gx_S → Prop} (hQ : ex_Q E = va_Qi post (gx_B (ex_Z E)) (gx_A (ex_Z E))) {v0 v2 bef q n : Nat} {M N : List Nat} {u : gx_S} (hM : byL u v0 M) (hN : byL u v2 N) (hb : bef < 2 ^ 28) (hq : q < 2 ^ 28) (hn : n < 2 ^ 28) :
    ∀ (k t p : Nat), 40 - t = k → t ≤ 40 → p < 2 ^ 28 → post (oI (voF M bef N q n k p)) u → J_X5_valueOf_6 E v0 (nI bef) v2 (nI q) (nI n) (nI p) (nI t) u := by
  have hM2 := hM.2.2.2.2.1
  intro k
  induction k with
  | zero =>
    intro t p hk ht hp h
    refine w_X5_valueOf_6 X hd hQ ⟨fun _ => h, fun z => absurd (nI_le (a := 40) (by omega) (by omega)) z⟩
  | succ k ih =>
    intro t p hk ht hp h
    have h8 := lettLen_le M p
    have hfl := fnd_le M 59 p
    unfold voF at h
    refine w_X5_valueOf_6 X hd hQ ⟨fun z => absurd z (nI_ge (b := 40) (by omega) (by omega)), fun _ => ⟨fun z => ?_, fun z => ?_⟩⟩
    · rw [nI_leI (by omega) (by omega)] at z
      rw [if_pos z] at h; exact h
    · rw [nI_leI (by omega) (by omega)] at z
      rw [if_neg z] at h
      refine ⟨M, p, hM, by omega, rfl, ⟨fun z1 => ⟨hM.1, M, 59, p, hM, by omega, rfl, by omega, rfl, ?_⟩, fun z1 => ⟨M, N, p, q, n, hM, hN, by omega, by omega, by omega, rfl, rfl, rfl, ⟨fun z2 => ⟨hM.1, M, 59, p, hM, by omega, rfl, by omega, rfl, ?_⟩, fun z2 => ?_⟩⟩⟩⟩
      · rintro x6 rfl x7 rfl
        rw [nI_1, nI_1]
        rw [if_neg (fun e => z1 (by rw [e.1]))] at h
        exact ih (t + 1) _ (by omega) (by omega) (by omega) h
      · rintro x13 rfl x14 rfl
        rw [nI_1, nI_1]
        rw [b2_0] at z2
        rw [if_neg (fun e => by rw [z2] at e; exact absurd e.2 (by decide))] at h
        exact ih (t + 1) _ (by omega) (by omega) (by omega) h
      · rw [if_pos ⟨(nI_eq (by omega) (by omega)).mp z1, b2_n0 z2⟩] at h
        rw [nI_add, nI_1]; exact h
theorem w_X5_valueOf {E : gx_E} (X : gx_X E cX5_valueOf 7 RX5 (some .int)) (hd : 2 ≤ ex_d E) {post : Int32 → gx_S → Prop} (hQ : ex_Q E = va_Qi post (gx_B (ex_Z E)) (gx_A (ex_Z E))) {u : gx_S} {v0 : Nat} {v1 : Int32} {v2 : Nat} {v3 v4 : Int32} (h : S_X5_valueOf u v0 v1 v2 v3 v4 post) : gx_Wc E 7 0 [(0, .ref (ex_ad E v0)), (1, .int v1), (2, .ref (ex_ad E v2)), (3, .int v3), (4, .int v4)] [] u := by
  obtain ⟨M, N, bef, q, n, hM, hN, hb, hq, hn, rfl, rfl, rfl, h⟩ := h
  exact w_X5_valueOf_0 X hd hQ (lp_X5_valueOf X hd hQ hM hN hb hq hn 40 0 0 (by omega) (by omega) (by omega) h)
theorem c_X5_valueOf {l : Launch} {Z : gx_Z} {u : gx_S} {v0 : Nat} {v1 : Int32} {v2 : Nat} {v3 : Int32} {v4 : Int32} {post : Int32 → gx_S → Prop} (h : S_X5_valueOf u v0 v1 v2 v3 v4 post) : Met l yX5_valueOf (Cond.code yX5_valueOf cX5_valueOf 7 (some .int) :: gx_TB) (gx_rm 2) (gx_Pre Z u [.ref (Z.2.1 v0), .int v1, .ref (Z.2.1 v2), .int v3, .int v4]) (va_Qi post (gx_B Z) (gx_A Z)) 0 0 (gx_A Z) := by
  refine gx_met (by decide +kernel) (Nat.le_of_ble_eq_true rfl) ?_
  intro E X hZ hQ hD hL
  subst hZ
  exact w_X5_valueOf X (Nat.le_of_eq hD.symm) hQ h
-- PlainSeal$TagList.countTags(LPlainSeal$Bytes;)I
theorem dX5_countTags_0 : decode cX5_countTags 0 = .ok (.iconst 0, 1) := by decide +kernel
theorem dX5_countTags_1 : decode cX5_countTags 1 = .ok (.istore_n 1, 1) := by decide +kernel
theorem dX5_countTags_2 : decode cX5_countTags 2 = .ok (.iconst 1, 1) := by decide +kernel
theorem dX5_countTags_3 : decode cX5_countTags 3 = .ok (.istore_n 2, 1) := by decide +kernel
theorem dX5_countTags_4 : decode cX5_countTags 4 = .ok (.iload_n 2, 1) := by decide +kernel
theorem dX5_countTags_5 : decode cX5_countTags 5 = .ok (.bipush 40, 2) := by decide +kernel
theorem dX5_countTags_7 : decode cX5_countTags 7 = .ok (.if_icmp .gt 59, 3) := by decide +kernel
theorem dX5_countTags_10 : decode cX5_countTags 10 = .ok (.aload_n 0, 1) := by decide +kernel
theorem dX5_countTags_11 : decode cX5_countTags 11 = .ok (.iload_n 1, 1) := by decide +kernel
theorem dX5_countTags_12 : decode cX5_countTags 12 = .ok (.invokestatic 41, 3) := by decide +kernel
theorem dX5_countTags_15 : decode cX5_countTags 15 = .ok (.istore_n 3, 1) := by decide +kernel
theorem dX5_countTags_16 : decode cX5_countTags 16 = .ok (.iload_n 3, 1) := by decide +kernel
theorem dX5_countTags_17 : decode cX5_countTags 17 = .ok (.ifCond .eq 16, 3) := by decide +kernel
theorem dX5_countTags_20 : decode cX5_countTags 20 = .ok (.aload_n 0, 1) := by decide +kernel
theorem dX5_countTags_21 : decode cX5_countTags 21 = .ok (.iload_n 1, 1) := by decide +kernel
theorem dX5_countTags_22 : decode cX5_countTags 22 = .ok (.aload_n 0, 1) := by decide +kernel
theorem dX5_countTags_23 : decode cX5_countTags 23 = .ok (.iload_n 1, 1) := by decide +kernel
theorem dX5_countTags_24 : decode cX5_countTags 24 = .ok (.iload_n 3, 1) := by decide +kernel
theorem dX5_countTags_25 : decode cX5_countTags 25 = .ok (.invokestatic 45, 3) := by decide +kernel
theorem dX5_countTags_28 : decode cX5_countTags 28 = .ok (.bipush (-2), 2) := by decide +kernel
theorem dX5_countTags_30 : decode cX5_countTags 30 = .ok (.if_icmp .eq 5, 3) := by decide +kernel
theorem dX5_countTags_33 : decode cX5_countTags 33 = .ok (.iconst 0, 1) := by decide +kernel
theorem dX5_countTags_34 : decode cX5_countTags 34 = .ok (.ireturn, 1) := by decide +kernel
theorem dX5_countTags_35 : decode cX5_countTags 35 = .ok (.aload_n 0, 1) := by decide +kernel
theorem dX5_countTags_36 : decode cX5_countTags 36 = .ok (.bipush 59, 2) := by decide +kernel
theorem dX5_countTags_38 : decode cX5_countTags 38 = .ok (.iload_n 1, 1) := by decide +kernel
theorem dX5_countTags_39 : decode cX5_countTags 39 = .ok (.invokevirtual 49, 3) := by decide +kernel
theorem dX5_countTags_42 : decode cX5_countTags 42 = .ok (.istore 4, 2) := by decide +kernel
theorem dX5_countTags_44 : decode cX5_countTags 44 = .ok (.iload 4, 2) := by decide +kernel
theorem dX5_countTags_46 : decode cX5_countTags 46 = .ok (.aload_n 0, 1) := by decide +kernel
theorem dX5_countTags_47 : decode cX5_countTags 47 = .ok (.invokevirtual 21, 3) := by decide +kernel
theorem dX5_countTags_50 : decode cX5_countTags 50 = .ok (.if_icmp .lt 5, 3) := by decide +kernel
theorem dX5_countTags_53 : decode cX5_countTags 53 = .ok (.iload_n 2, 1) := by decide +kernel
theorem dX5_countTags_54 : decode cX5_countTags 54 = .ok (.ireturn, 1) := by decide +kernel
theorem dX5_countTags_55 : decode cX5_countTags 55 = .ok (.iload 4, 2) := by decide +kernel
theorem dX5_countTags_57 : decode cX5_countTags 57 = .ok (.iconst 1, 1) := by decide +kernel
theorem dX5_countTags_58 : decode cX5_countTags 58 = .ok (.iadd, 1) := by decide +kernel
theorem dX5_countTags_59 : decode cX5_countTags 59 = .ok (.istore_n 1, 1) := by decide +kernel
theorem dX5_countTags_60 : decode cX5_countTags 60 = .ok (.iinc 2 1, 3) := by decide +kernel
theorem dX5_countTags_63 : decode cX5_countTags 63 = .ok (.goto (-59), 3) := by decide +kernel
theorem dX5_countTags_66 : decode cX5_countTags 66 = .ok (.iconst 0, 1) := by decide +kernel
theorem dX5_countTags_67 : decode cX5_countTags 67 = .ok (.ireturn, 1) := by decide +kernel
theorem hyX5_countTags : yX5_countTags.cls ≠ "java/lang/invoke/MethodHandle" ∧ yX5_countTags.cls ≠ "java/lang/invoke/VarHandle" ∧ (parseMethodDescriptor yX5_countTags.desc).map (fun d => d.parameters.length) = some 1 := by decide +kernel
abbrev J_X5_countTags_4 (E : gx_E) (v0 : Nat) (v1 : Int32) (v2 : Int32) (u : gx_S) : Prop := gx_Wc E 5 4 [(0, .ref (ex_ad E v0)), (1, .int v1), (2, .int v2)] [] u
set_option maxHeartbeats 4000000 in
set_option maxRecDepth 100000 in
theorem w_X5_countTags_0 {E : gx_E} (X : gx_X E cX5_countTags 5 RX5 (some .int)) (hd : 3 ≤ ex_d E) {post : Int32 → gx_S → Prop} (hQ : ex_Q E = va_Qi post (gx_B (ex_Z E)) (gx_A (ex_Z E))) {u : gx_S} {v0 : Nat} (h : J_X5_countTags_4 E v0 (0 : Int32) (1 : Int32) u) : gx_Wc E 5 0 [(0, .ref (ex_ad E v0))] [] u := by
  refine gx_iconst X (v := 0) dX5_countTags_0 (by decide) ?_
  refine gx_istore_n X (lv' := [(1, .int (0 : Int32)), (0, .ref (ex_ad E v0))]) dX5_countTags_1 rfl (by decide) rfl ?_
  refine gx_iconst X (v := 1) dX5_countTags_2 (by decide) ?_
  refine gx_istore_n X (lv' := [(2, .int (1 : Int32)), (1, .int (0 : Int32)), (0, .ref (ex_ad E v0))]) dX5_countTags_3 rfl (by decide) rfl ?_
  exact gx_sub [2, 1, 0] rfl h
set_option maxHeartbeats 4000000 in
set_option maxRecDepth 100000 in
theorem w_X5_countTags_4 {E : gx_E} (X : gx_X E cX5_countTags 5 RX5 (some .int)) (hd : 3 ≤ ex_d E) {post : Int32 → gx_S → Prop} (hQ : ex_Q E = va_Qi post (gx_B (ex_Z E)) (gx_A (ex_Z E))) {u : gx_S} {v0 : Nat} {v1 : Int32} {v2 : Int32} (h : (((40 : Int32) < v2 → post (0 : Int32) u) ∧ (¬ (40 : Int32) < v2 → (S_X5_lettersLength u v0 v1 (fun (r2 : Int32) (u1 : gx_S) => ((r2 = 0 → post (0 : Int32) u1) ∧ (¬ r2 = 0 → (S_X5_valueOf u1 v0 v1 v0 v1 r2 (fun (r4 : Int32) (u3 : gx_S) => ((r4 = (-2 : Int32) → (gx_isO v0 0 ∧ S_X0_find u3 v0 (59 : Int32) v1 (fun (r7 : Int32) (u6 : gx_S) => (S_X0_size u6 v0 (fun (r9 : Int32) (u8 : gx_S) => ((r7 < r9 → (∀ x10 : Int32, x10 = (r7 + (1 : Int32)) → (∀ x11 : Int32, x11 = v2 + 1 → J_X5_countTags_4 E v0 x10 x11 u8))) ∧ (¬ r7 < r9 → post v2 u8))))))) ∧ (¬ r4 = (-2 : Int32) → post (0 : Int32) u3))))))))))) : gx_Wc E 5 4 [(0, .ref (ex_ad E v0)), (1, .int v1), (2, .int v2)] [] u := by
  refine gx_iload_n X (j := 2) dX5_countTags_4 rfl rfl ?_
  refine gx_bipush X (v := 40) dX5_countTags_5 (by decide) ?_
  refine gx_icmp_gt X (tgt := 66) dX5_countTags_7 (by decide) (fun c15 => ?_) (fun c15 => ?_)
  · replace h := h.1 c15
    refine gx_iconst X (v := 0) dX5_countTags_66 (by decide) ?_
    exact gx_iret X hQ h dX5_countTags_67
  · replace h := h.2 c15
    refine gx_aload_n X (j := 0) dX5_countTags_10 rfl rfl ?_
    refine gx_iload_n X (j := 1) dX5_countTags_11 rfl rfl ?_
    refine gx_ki (gx_rS X (c_X5_lettersLength h) (Nat.le_trans (by decide) hd) (Nat.le_trans (by decide) (Nat.mul_le_mul_left 40 hd)) mw_275 mw_276 mw_4 mw_277 hyX5_lettersLength (As := [.ref (ex_ad E v0), .int v1]) (rest := []) rfl rfl (Nat.le_of_ble_eq_true rfl) dX5_countTags_12) (fun r2 u1 h => ?_)
    refine gx_istore_n X (lv' := [(3, .int r2), (0, .ref (ex_ad E v0)), (1, .int v1), (2, .int v2)]) dX5_countTags_15 rfl (by decide) rfl ?_
    refine gx_iload_n X (j := 0) dX5_countTags_16 rfl rfl ?_
    refine gx_if_eq X (tgt := 33) dX5_countTags_17 (by decide) (fun c14 => ?_) (fun c14 => ?_)
    · replace h := h.1 c14
      refine gx_iconst X (v := 0) dX5_countTags_33 (by decide) ?_
      exact gx_iret X hQ h dX5_countTags_34
    · replace h := h.2 c14
      refine gx_aload_n X (j := 1) dX5_countTags_20 rfl rfl ?_
      refine gx_iload_n X (j := 2) dX5_countTags_21 rfl rfl ?_
      refine gx_aload_n X (j := 1) dX5_countTags_22 rfl rfl ?_
      refine gx_iload_n X (j := 2) dX5_countTags_23 rfl rfl ?_
      refine gx_iload_n X (j := 0) dX5_countTags_24 rfl rfl ?_
      refine gx_ki (gx_rS X (c_X5_valueOf h) (Nat.le_trans (by decide) hd) (Nat.le_trans (by decide) (Nat.mul_le_mul_left 40 hd)) mw_279 mw_280 mw_4 mw_281 hyX5_valueOf (As := [.ref (ex_ad E v0), .int v1, .ref (ex_ad E v0), .int v1, .int r2]) (rest := []) rfl rfl (Nat.le_of_ble_eq_true rfl) dX5_countTags_25) (fun r4 u3 h => ?_)
      refine gx_bipush X (v := -2) dX5_countTags_28 (by decide) ?_
      refine gx_icmp_eq X (tgt := 35) dX5_countTags_30 (by decide) (fun c13 => ?_) (fun c13 => ?_)
      · replace h := h.1 c13
        refine gx_aload_n X (j := 1) dX5_countTags_35 rfl rfl ?_
        refine gx_bipush X (v := 59) dX5_countTags_36 (by decide) ?_
        refine gx_iload_n X (j := 2) dX5_countTags_38 rfl rfl ?_
        obtain ⟨k5, h⟩ := h
        refine gx_ki (gx_rV X (c_X0_find h) (Nat.le_trans (by decide) hd) (Nat.le_trans (by decide) (Nat.mul_le_mul_left 40 hd)) k5 rfl mw_285 mw_286 mw_287 mw_2 mw_288 hyX0_find (As := [.int (59 : Int32), .int v1]) (rest := []) rfl rfl (Nat.le_of_ble_eq_true rfl) dX5_countTags_39) (fun r7 u6 h => ?_)
        refine gx_istore X (lv' := [(4, .int r7), (3, .int r2), (0, .ref (ex_ad E v0)), (1, .int v1), (2, .int v2)]) dX5_countTags_42 (by decide) rfl ?_
        refine gx_iload X (j := 0) dX5_countTags_44 rfl ?_
        refine gx_aload_n X (j := 2) dX5_countTags_46 rfl rfl ?_
        refine gx_ki (gx_rV X (c_X0_size h) (Nat.le_trans (by decide) hd) (Nat.le_trans (by decide) (Nat.mul_le_mul_left 40 hd)) k5 rfl mw_269 mw_128 mw_129 mw_2 mw_130 hyX0_size (As := []) (rest := [.int r7]) rfl rfl (Nat.le_of_ble_eq_true rfl) dX5_countTags_47) (fun r9 u8 h => ?_)
        refine gx_icmp_lt X (tgt := 55) dX5_countTags_50 (by decide) (fun c12 => ?_) (fun c12 => ?_)
        · replace h := h.1 c12
          refine gx_iload X (j := 0) dX5_countTags_55 rfl ?_
          refine gx_iconst X (v := 1) dX5_countTags_57 (by decide) ?_
          refine gx_iadd X dX5_countTags_58 ?_
          refine gx_nami (fun x10 ex10 => ?_)
          replace h := h x10 ex10
          refine gx_istore_n X (lv' := [(1, .int x10), (4, .int r7), (3, .int r2), (0, .ref (ex_ad E v0)), (2, .int v2)]) dX5_countTags_59 rfl (by decide) rfl ?_
          obtain ⟨x11, ex11⟩ : ∃ y : Int32, y = v2 + 1 := ⟨_, rfl⟩
          replace h := h x11 ex11
          refine gx_iinc X (v := x11) (lv' := [(2, .int x11), (1, .int x10), (4, .int r7), (3, .int r2), (0, .ref (ex_ad E v0))]) dX5_countTags_60 (j := 4) rfl (by rw [ex11]; rfl) (by decide) rfl ?_
          refine gx_goto X (tgt := 4) dX5_countTags_63 (by decide) ?_
          exact gx_sub [4, 1, 0] rfl h
        · replace h := h.2 c12
          refine gx_iload_n X (j := 4) dX5_countTags_53 rfl rfl ?_
          exact gx_iret X hQ h dX5_countTags_54
      · replace h := h.2 c13
        refine gx_iconst X (v := 0) dX5_countTags_33 (by decide) ?_
        exact gx_iret X hQ h dX5_countTags_34
def ctF (M : List Nat) : Nat → Nat → Nat → Nat
  | 0, _, _ => 0
  | k + 1, f, p => if lettLen M p = 0 then 0 else if vo M p M p (lettLen M p) = none then (if fnd M 59 p < M.length then ctF M k (f + 1) (fnd M 59 p + 1) else f) else 0
/-- how many tags a bare row has; 0: it is none -/
def ct (M : List Nat) : Nat := ctF M 40 1 0
theorem ctF_le (M : List Nat) : ∀ k f p, f + k ≤ 41 → ctF M k f p ≤ 40
  | 0, _, _, _ => by simp [ctF]
  | k + 1, f, p, h => by
    unfold ctF
    split
    · omega
    · split
      · split
        · exact ctF_le M k _ _ (by omega)
        · omega
      · omega
theorem ct_le (M : List Nat) : ct M ≤ 40 := ctF_le M 40 1 0 (by omega)
theorem oI_none {x : Option Nat} (hx : ∀ v, x = some v → v < 2 ^ 31) : oI x = -2 ↔ x = none := by
  cases x with
  | none => simp [oI]
  | some v =>
    constructor
    · intro e; exact absurd e.symm (nI_neg2 (hx v rfl))
    · intro e; cases e
def S_X5_countTags (u : gx_S) (v0 : Nat) (post : Int32 → gx_S → Prop) : Prop := ∃ M : List Nat, byL u v0 M ∧ post (nI (ct M)) u
theorem lp_X5_countTags {E : gx_E} (X : gx_X E cX5_countTags 5 RX5 (some .int)) (hd : 3 ≤ ex_d E) {post : Int32 → gx_S → Prop} (hQ : ex_Q E = va_Qi post (gx_B (ex_Z E)) (gx_A (ex_Z E))) {v0 : Nat} {M : List Nat} {u : gx_S} (hM : byL u v0 M) :
    ∀ (k f p : Nat), 41 - f = k → f ≤ 41 → p < 2 ^ 27 → post (nI (ctF M k f p)) u → J_X5_countTags_4 E v0 (nI p) (nI f) u := by
  have hM2 := hM.2.2.2.2.1
  intro k
  induction k with
  | zero =>
    intro f p hk hf hp h
    refine w_X5_countTags_4 X hd hQ ⟨fun _ => h, fun z => absurd (nI_lt (a := 40) (by omega) (by omega)) z⟩
  | succ k ih =>
    intro f p hk hf hp h
    have h8 := lettLen_le M p
    have hfl := fnd_le M 59 p
    unfold ctF at h
    refine w_X5_countTags_4 X hd hQ ⟨fun z => absurd z (nI_nlt (b := f) (a := 40) (by omega) (by omega)), fun _ => ⟨M, p, hM, by omega, rfl, ⟨fun z => ?_, fun z => ?_⟩⟩⟩
    · rw [if_pos ((nI_eq (b := 0) (by omega) (by omega)).mp z)] at h; exact h
    · rw [if_neg (fun e => z (by rw [e]; rfl))] at h
      have hv : ∀ v, vo M p M p (lettLen M p) = some v → v < 2 ^ 31 := fun v e => by
        have := voF_lt 40 0 e; omega
      refine ⟨M, M, p, p, lettLen M p, hM, hM, by omega, by omega, by omega, rfl, rfl, rfl, ⟨fun z2 => ⟨hM.1, M, 59, p, hM, by omega, rfl, by omega, rfl, i_X0_size hM ⟨fun z3 => ?_, fun z3 => ?_⟩⟩, fun z2 => ?_⟩⟩
      · rintro x10 rfl x11 rfl
        rw [nI_1, nI_1]
        rw [oI_none hv] at z2
        rw [nI_ltI (by omega) (by omega)] at z3
        rw [if_pos z2, if_pos z3] at h
        exact ih (f + 1) _ (by omega) (by omega) (by omega) h
      · rw [oI_none hv] at z2
        rw [nI_ltI (by omega) (by omega)] at z3
        rw [if_pos z2, if_neg z3] at h
        exact h
      · rw [oI_none hv] at z2
        rw [if_neg z2] at h
        exact h
theorem w_X5_countTags {E : gx_E} (X : gx_X E cX5_countTags 5 RX5 (some .int)) (hd : 3 ≤ ex_d E) {post : Int32 → gx_S → Prop} (hQ : ex_Q E = va_Qi post (gx_B (ex_Z E)) (gx_A (ex_Z E))) {u : gx_S} {v0 : Nat} (h : S_X5_countTags u v0 post) : gx_Wc E 5 0 [(0, .ref (ex_ad E v0))] [] u := by
  obtain ⟨M, hM, hp⟩ := h
  exact w_X5_countTags_0 X hd hQ (lp_X5_countTags X hd hQ hM 40 1 0 (by omega) (by omega) (by omega) hp)
theorem c_X5_countTags {l : Launch} {Z : gx_Z} {u : gx_S} {v0 : Nat} {post : Int32 → gx_S → Prop} (h : S_X5_countTags u v0 post) : Met l yX5_countTags (Cond.code yX5_countTags cX5_countTags 5 (some .int) :: gx_TB) (gx_rm 3) (gx_Pre Z u [.ref (Z.2.1 v0)]) (va_Qi post (gx_B Z) (gx_A Z)) 0 0 (gx_A Z) := by
  refine gx_met (by decide +kernel) (Nat.le_of_ble_eq_true rfl) ?_
  intro E X hZ hQ hD hL
  subst hZ
  exact w_X5_countTags X (Nat.le_of_eq hD.symm) hQ h
-- PlainSeal$TagList.read(LPlainSeal$Bytes;)I
theorem dX5_read_0 : decode cX5_read 0 = .ok (.aload_n 1, 1) := by decide +kernel
theorem dX5_read_1 : decode cX5_read 1 = .ok (.invokevirtual 18, 3) := by decide +kernel
theorem dX5_read_4 : decode cX5_read 4 = .ok (.aload_n 1, 1) := by decide +kernel
theorem dX5_read_5 : decode cX5_read 5 = .ok (.aload_n 1, 1) := by decide +kernel
theorem dX5_read_6 : decode cX5_read 6 = .ok (.invokevirtual 21, 3) := by decide +kernel
theorem dX5_read_9 : decode cX5_read 9 = .ok (.iconst 1, 1) := by decide +kernel
theorem dX5_read_10 : decode cX5_read 10 = .ok (.isub, 1) := by decide +kernel
theorem dX5_read_11 : decode cX5_read 11 = .ok (.invokevirtual 25, 3) := by decide +kernel
theorem dX5_read_14 : decode cX5_read 14 = .ok (.bipush 59, 2) := by decide +kernel
theorem dX5_read_16 : decode cX5_read 16 = .ok (.if_icmp .ne 13, 3) := by decide +kernel
theorem dX5_read_19 : decode cX5_read 19 = .ok (.aload_n 1, 1) := by decide +kernel
theorem dX5_read_20 : decode cX5_read 20 = .ok (.aload_n 1, 1) := by decide +kernel
theorem dX5_read_21 : decode cX5_read 21 = .ok (.invokevirtual 21, 3) := by decide +kernel
theorem dX5_read_24 : decode cX5_read 24 = .ok (.iconst 1, 1) := by decide +kernel
theorem dX5_read_25 : decode cX5_read 25 = .ok (.isub, 1) := by decide +kernel
theorem dX5_read_26 : decode cX5_read 26 = .ok (.invokevirtual 29, 3) := by decide +kernel
theorem dX5_read_29 : decode cX5_read 29 = .ok (.aload_n 1, 1) := by decide +kernel
theorem dX5_read_30 : decode cX5_read 30 = .ok (.invokestatic 33, 3) := by decide +kernel
theorem dX5_read_33 : decode cX5_read 33 = .ok (.istore_n 2, 1) := by decide +kernel
theorem dX5_read_34 : decode cX5_read 34 = .ok (.iload_n 2, 1) := by decide +kernel
theorem dX5_read_35 : decode cX5_read 35 = .ok (.ifCond .ne 5, 3) := by decide +kernel
theorem dX5_read_38 : decode cX5_read 38 = .ok (.iconst (-1), 1) := by decide +kernel
theorem dX5_read_39 : decode cX5_read 39 = .ok (.ireturn, 1) := by decide +kernel
theorem dX5_read_40 : decode cX5_read 40 = .ok (.aload_n 0, 1) := by decide +kernel
theorem dX5_read_41 : decode cX5_read 41 = .ok (.getfield 12, 3) := by decide +kernel
theorem dX5_read_44 : decode cX5_read 44 = .ok (.aload_n 1, 1) := by decide +kernel
theorem dX5_read_45 : decode cX5_read 45 = .ok (.invokevirtual 37, 3) := by decide +kernel
theorem dX5_read_48 : decode cX5_read 48 = .ok (.iload_n 2, 1) := by decide +kernel
theorem dX5_read_49 : decode cX5_read 49 = .ok (.ireturn, 1) := by decide +kernel
theorem hyX5_read : yX5_read.cls ≠ "java/lang/invoke/MethodHandle" ∧ yX5_read.cls ≠ "java/lang/invoke/VarHandle" ∧ (parseMethodDescriptor yX5_read.desc).map (fun d => d.parameters.length) = some 1 := by decide +kernel
def S_X5_read (u : gx_S) (v0 : Nat) (v1 : Nat) (post : Int32 → gx_S → Prop) : Prop := (gx_isO v1 0 ∧ S_X0_dropWhiteAndNewlines u v1 (fun (u2 : gx_S) => (S_X0_size u2 v1 (fun (r4 : Int32) (u3 : gx_S) => (S_X0_at u3 v1 (r4 - (1 : Int32)) (fun (r6 : Int32) (u5 : gx_S) => ((¬ r6 = (59 : Int32) → (S_X5_countTags u5 v1 (fun (r8 : Int32) (u7 : gx_S) => ((¬ r8 = 0 → (gx_isO v0 4 ∧ (gx_isO (gx_r u7 v0 0) 0 ∧ S_X0_become u7 (gx_r u7 v0 0) v1 (fun (u11 : gx_S) => post r8 u11)))) ∧ (r8 = 0 → post (-1 : Int32) u7))))) ∧ (r6 = (59 : Int32) → (S_X0_size u5 v1 (fun (r14 : Int32) (u13 : gx_S) => (S_X0_cutTo u13 v1 (r14 - (1 : Int32)) (fun (u15 : gx_S) => (S_X5_countTags u15 v1 (fun (r17 : Int32) (u16 : gx_S) => ((¬ r17 = 0 → (gx_isO v0 4 ∧ (gx_isO (gx_r u16 v0 0) 0 ∧ S_X0_become u16 (gx_r u16 v0 0) v1 (fun (u20 : gx_S) => post r17 u20)))) ∧ (r17 = 0 → post (-1 : Int32) u16))))))))))))))))
set_option maxHeartbeats 4000000 in
set_option maxRecDepth 100000 in
theorem w_X5_read {E : gx_E} (X : gx_X E cX5_read 3 RX5 (some .int)) (hd : 4 ≤ ex_d E) {post : Int32 → gx_S → Prop} (hQ : ex_Q E = va_Qi post (gx_B (ex_Z E)) (gx_A (ex_Z E))) {u : gx_S} {v0 : Nat} {v1 : Nat} (h : S_X5_read u v0 v1 post) : gx_Wc E 3 0 [(0, .ref (ex_ad E v0)), (1, .ref (ex_ad E v1))] [] u := by
  unfold S_X5_read at h
  refine gx_aload_n X (j := 1) dX5_read_0 rfl rfl ?_
  obtain ⟨k1, h⟩ := h
  refine gx_kv (gx_rV X (c_X0_dropWhiteAndNewlines h) (Nat.le_trans (by decide) hd) (Nat.le_trans (by decide) (Nat.mul_le_mul_left 40 hd)) k1 rfl mw_264 mw_265 mw_266 mw_2 mw_267 hyX0_dropWhiteAndNewlines (As := []) (rest := []) rfl rfl (Nat.le_of_ble_eq_true rfl) dX5_read_1) (fun u2 h => ?_)
  refine gx_aload_n X (j := 1) dX5_read_4 rfl rfl ?_
  refine gx_aload_n X (j := 1) dX5_read_5 rfl rfl ?_
  refine gx_ki (gx_rV X (c_X0_size h) (Nat.le_trans (by decide) hd) (Nat.le_trans (by decide) (Nat.mul_le_mul_left 40 hd)) k1 rfl mw_269 mw_128 mw_129 mw_2 mw_130 hyX0_size (As := []) (rest := [.ref (ex_ad E v1)]) rfl rfl (Nat.le_of_ble_eq_true rfl) dX5_read_6) (fun r4 u3 h => ?_)
  refine gx_iconst X (v := 1) dX5_read_9 (by decide) ?_
  refine gx_isub X dX5_read_10 ?_
  refine gx_ki (gx_rV X (c_X0_at h) (Nat.le_trans (by decide) hd) (Nat.le_trans (by decide) (Nat.mul_le_mul_left 40 hd)) k1 rfl mw_270 mw_163 mw_164 mw_2 mw_165 hyX0_at (As := [.int (r4 - (1 : Int32))]) (rest := []) rfl rfl (Nat.le_of_ble_eq_true rfl) dX5_read_11) (fun r6 u5 h => ?_)
  refine gx_bipush X (v := 59) dX5_read_14 (by decide) ?_
  refine gx_icmp_ne X (tgt := 29) dX5_read_16 (by decide) (fun c22 => ?_) (fun c22 => ?_)
  · replace h := h.1 c22
    refine gx_aload_n X (j := 1) dX5_read_29 rfl rfl ?_
    refine gx_ki (gx_rS X (c_X5_countTags h) (Nat.le_trans (by decide) hd) (Nat.le_trans (by decide) (Nat.mul_le_mul_left 40 hd)) mw_272 mw_273 mw_4 mw_274 hyX5_countTags (As := [.ref (ex_ad E v1)]) (rest := []) rfl rfl (Nat.le_of_ble_eq_true rfl) dX5_read_30) (fun r8 u7 h => ?_)
    refine gx_istore_n X (lv' := [(2, .int r8), (0, .ref (ex_ad E v0)), (1, .ref (ex_ad E v1))]) dX5_read_33 rfl (by decide) rfl ?_
    refine gx_iload_n X (j := 0) dX5_read_34 rfl rfl ?_
    refine gx_if_ne X (tgt := 40) dX5_read_35 (by decide) (fun c12 => ?_) (fun c12 => ?_)
    · replace h := h.1 c12
      refine gx_aload_n X (j := 1) dX5_read_40 rfl rfl ?_
      obtain ⟨k9, h⟩ := h
      refine gx_get X k9 rfl iwX5 0 (by decide) mw_65 (v := .ref (ex_ad E (gx_r u7 v0 0))) rfl dX5_read_41 ?_
      refine gx_aload_n X (j := 2) dX5_read_44 rfl rfl ?_
      obtain ⟨k10, h⟩ := h
      refine gx_kv (gx_rV X (c_X0_become h) (Nat.le_trans (by decide) hd) (Nat.le_trans (by decide) (Nat.mul_le_mul_left 40 hd)) k10 rfl mw_289 mw_188 mw_189 mw_2 mw_190 hyX0_become (As := [.ref (ex_ad E v1)]) (rest := []) rfl rfl (Nat.le_of_ble_eq_true rfl) dX5_read_45) (fun u11 h => ?_)
      refine gx_iload_n X (j := 0) dX5_read_48 rfl rfl ?_
      exact gx_iret X hQ h dX5_read_49
    · replace h := h.2 c12
      refine gx_iconst X (v := -1) dX5_read_38 (by decide) ?_
      exact gx_iret X hQ h dX5_read_39
  · replace h := h.2 c22
    refine gx_aload_n X (j := 1) dX5_read_19 rfl rfl ?_
    refine gx_aload_n X (j := 1) dX5_read_20 rfl rfl ?_
    refine gx_ki (gx_rV X (c_X0_size h) (Nat.le_trans (by decide) hd) (Nat.le_trans (by decide) (Nat.mul_le_mul_left 40 hd)) k1 rfl mw_269 mw_128 mw_129 mw_2 mw_130 hyX0_size (As := []) (rest := [.ref (ex_ad E v1)]) rfl rfl (Nat.le_of_ble_eq_true rfl) dX5_read_21) (fun r14 u13 h => ?_)
    refine gx_iconst X (v := 1) dX5_read_24 (by decide) ?_
    refine gx_isub X dX5_read_25 ?_
    refine gx_kv (gx_rV X (c_X0_cutTo h) (Nat.le_trans (by decide) hd) (Nat.le_trans (by decide) (Nat.mul_le_mul_left 40 hd)) k1 rfl mw_271 mw_144 mw_145 mw_2 mw_146 hyX0_cutTo (As := [.int (r14 - (1 : Int32))]) (rest := []) rfl rfl (Nat.le_of_ble_eq_true rfl) dX5_read_26) (fun u15 h => ?_)
    refine gx_aload_n X (j := 1) dX5_read_29 rfl rfl ?_
    refine gx_ki (gx_rS X (c_X5_countTags h) (Nat.le_trans (by decide) hd) (Nat.le_trans (by decide) (Nat.mul_le_mul_left 40 hd)) mw_272 mw_273 mw_4 mw_274 hyX5_countTags (As := [.ref (ex_ad E v1)]) (rest := []) rfl rfl (Nat.le_of_ble_eq_true rfl) dX5_read_30) (fun r17 u16 h => ?_)
    refine gx_istore_n X (lv' := [(2, .int r17), (0, .ref (ex_ad E v0)), (1, .ref (ex_ad E v1))]) dX5_read_33 rfl (by decide) rfl ?_
    refine gx_iload_n X (j := 0) dX5_read_34 rfl rfl ?_
    refine gx_if_ne X (tgt := 40) dX5_read_35 (by decide) (fun c21 => ?_) (fun c21 => ?_)
    · replace h := h.1 c21
      refine gx_aload_n X (j := 1) dX5_read_40 rfl rfl ?_
      obtain ⟨k18, h⟩ := h
      refine gx_get X k18 rfl iwX5 0 (by decide) mw_65 (v := .ref (ex_ad E (gx_r u16 v0 0))) rfl dX5_read_41 ?_
      refine gx_aload_n X (j := 2) dX5_read_44 rfl rfl ?_
      obtain ⟨k19, h⟩ := h
      refine gx_kv (gx_rV X (c_X0_become h) (Nat.le_trans (by decide) hd) (Nat.le_trans (by decide) (Nat.mul_le_mul_left 40 hd)) k19 rfl mw_289 mw_188 mw_189 mw_2 mw_190 hyX0_become (As := [.ref (ex_ad E v1)]) (rest := []) rfl rfl (Nat.le_of_ble_eq_true rfl) dX5_read_45) (fun u20 h => ?_)
      refine gx_iload_n X (j := 0) dX5_read_48 rfl rfl ?_
      exact gx_iret X hQ h dX5_read_49
    · replace h := h.2 c21
      refine gx_iconst X (v := -1) dX5_read_38 (by decide) ?_
      exact gx_iret X hQ h dX5_read_39
theorem c_X5_read {l : Launch} {Z : gx_Z} {u : gx_S} {v0 : Nat} {v1 : Nat} {post : Int32 → gx_S → Prop} (h : S_X5_read u v0 v1 post) : Met l yX5_read (Cond.code yX5_read cX5_read 3 (some .int) :: gx_TB) (gx_rm 4) (gx_Pre Z u [.ref (Z.2.1 v0), .ref (Z.2.1 v1)]) (va_Qi post (gx_B Z) (gx_A Z)) 0 0 (gx_A Z) := by
  refine gx_met (by decide +kernel) (Nat.le_of_ble_eq_true rfl) ?_
  intro E X hZ hQ hD hL
  subst hZ
  exact w_X5_read X (Nat.le_of_eq hD.symm) hQ h
-- PlainSeal$TagList.writeValue(LPlainSeal$Bytes;LPlainSeal$Bytes;)I
theorem dX5_writeValue_0 : decode cX5_writeValue 0 = .ok (.aload_n 0, 1) := by decide +kernel
theorem dX5_writeValue_1 : decode cX5_writeValue 1 = .ok (.getfield 12, 3) := by decide +kernel
theorem dX5_writeValue_4 : decode cX5_writeValue 4 = .ok (.aload_n 0, 1) := by decide +kernel
theorem dX5_writeValue_5 : decode cX5_writeValue 5 = .ok (.getfield 12, 3) := by decide +kernel
theorem dX5_writeValue_8 : decode cX5_writeValue 8 = .ok (.invokevirtual 21, 3) := by decide +kernel
theorem dX5_writeValue_11 : decode cX5_writeValue 11 = .ok (.aload_n 1, 1) := by decide +kernel
theorem dX5_writeValue_12 : decode cX5_writeValue 12 = .ok (.iconst 0, 1) := by decide +kernel
theorem dX5_writeValue_13 : decode cX5_writeValue 13 = .ok (.aload_n 1, 1) := by decide +kernel
theorem dX5_writeValue_14 : decode cX5_writeValue 14 = .ok (.invokevirtual 21, 3) := by decide +kernel
theorem dX5_writeValue_17 : decode cX5_writeValue 17 = .ok (.invokestatic 45, 3) := by decide +kernel
theorem dX5_writeValue_20 : decode cX5_writeValue 20 = .ok (.istore_n 3, 1) := by decide +kernel
theorem dX5_writeValue_21 : decode cX5_writeValue 21 = .ok (.iload_n 3, 1) := by decide +kernel
theorem dX5_writeValue_22 : decode cX5_writeValue 22 = .ok (.bipush (-2), 2) := by decide +kernel
theorem dX5_writeValue_24 : decode cX5_writeValue 24 = .ok (.if_icmp .ne 6, 3) := by decide +kernel
theorem dX5_writeValue_27 : decode cX5_writeValue 27 = .ok (.bipush (-2), 2) := by decide +kernel
theorem dX5_writeValue_29 : decode cX5_writeValue 29 = .ok (.ireturn, 1) := by decide +kernel
theorem dX5_writeValue_30 : decode cX5_writeValue 30 = .ok (.aload_n 2, 1) := by decide +kernel
theorem dX5_writeValue_31 : decode cX5_writeValue 31 = .ok (.invokevirtual 61, 3) := by decide +kernel
theorem dX5_writeValue_34 : decode cX5_writeValue 34 = .ok (.aload_n 2, 1) := by decide +kernel
theorem dX5_writeValue_35 : decode cX5_writeValue 35 = .ok (.aload_n 0, 1) := by decide +kernel
theorem dX5_writeValue_36 : decode cX5_writeValue 36 = .ok (.getfield 12, 3) := by decide +kernel
theorem dX5_writeValue_39 : decode cX5_writeValue 39 = .ok (.iload_n 3, 1) := by decide +kernel
theorem dX5_writeValue_40 : decode cX5_writeValue 40 = .ok (.aload_n 0, 1) := by decide +kernel
theorem dX5_writeValue_41 : decode cX5_writeValue 41 = .ok (.getfield 12, 3) := by decide +kernel
theorem dX5_writeValue_44 : decode cX5_writeValue 44 = .ok (.bipush 59, 2) := by decide +kernel
theorem dX5_writeValue_46 : decode cX5_writeValue 46 = .ok (.iload_n 3, 1) := by decide +kernel
theorem dX5_writeValue_47 : decode cX5_writeValue 47 = .ok (.invokevirtual 49, 3) := by decide +kernel
theorem dX5_writeValue_50 : decode cX5_writeValue 50 = .ok (.invokevirtual 64, 3) := by decide +kernel
theorem dX5_writeValue_53 : decode cX5_writeValue 53 = .ok (.aload_n 2, 1) := by decide +kernel
theorem dX5_writeValue_54 : decode cX5_writeValue 54 = .ok (.invokevirtual 21, 3) := by decide +kernel
theorem dX5_writeValue_57 : decode cX5_writeValue 57 = .ok (.ireturn, 1) := by decide +kernel
theorem hyX5_writeValue : yX5_writeValue.cls ≠ "java/lang/invoke/MethodHandle" ∧ yX5_writeValue.cls ≠ "java/lang/invoke/VarHandle" ∧ (parseMethodDescriptor yX5_writeValue.desc).map (fun d => d.parameters.length) = some 2 := by decide +kernel
def S_X5_writeValue (u : gx_S) (v0 : Nat) (v1 : Nat) (v2 : Nat) (post : Int32 → gx_S → Prop) : Prop := (gx_isO v0 4 ∧ (gx_isO (gx_r u v0 0) 0 ∧ S_X0_size u (gx_r u v0 0) (fun (r4 : Int32) (u3 : gx_S) => (gx_isO v1 0 ∧ S_X0_size u3 v1 (fun (r7 : Int32) (u6 : gx_S) => (S_X5_valueOf u6 (gx_r u v0 0) r4 v1 (0 : Int32) r7 (fun (r9 : Int32) (u8 : gx_S) => ((¬ r9 = (-2 : Int32) → (gx_isO v2 0 ∧ S_X0_clear u8 v2 (fun (u11 : gx_S) => (gx_isO (gx_r u11 v0 0) 0 ∧ S_X0_find u11 (gx_r u11 v0 0) (59 : Int32) r9 (fun (r14 : Int32) (u13 : gx_S) => (S_X0_addPart u13 v2 (gx_r u11 v0 0) r9 r14 (fun (u15 : gx_S) => (S_X0_size u15 v2 (fun (r17 : Int32) (u16 : gx_S) => post r17 u16))))))))) ∧ (r9 = (-2 : Int32) → post (-2 : Int32) u8)))))))))
set_option maxHeartbeats 4000000 in
set_option maxRecDepth 100000 in
theorem w_X5_writeValue {E : gx_E} (X : gx_X E cX5_writeValue 4 RX5 (some .int)) (hd : 3 ≤ ex_d E) {post : Int32 → gx_S → Prop} (hQ : ex_Q E = va_Qi post (gx_B (ex_Z E)) (gx_A (ex_Z E))) {u : gx_S} {v0 : Nat} {v1 : Nat} {v2 : Nat} (h : S_X5_writeValue u v0 v1 v2 post) : gx_Wc E 4 0 [(0, .ref (ex_ad E v0)), (1, .ref (ex_ad E v1)), (2, .ref (ex_ad E v2))] [] u := by
  unfold S_X5_writeValue at h
  refine gx_aload_n X (j := 0) dX5_writeValue_0 rfl rfl ?_
  obtain ⟨k1, h⟩ := h
  refine gx_get X k1 rfl iwX5 0 (by decide) mw_65 (v := .ref (ex_ad E (gx_r u v0 0))) rfl dX5_writeValue_1 ?_
  refine gx_aload_n X (j := 0) dX5_writeValue_4 rfl rfl ?_
  refine gx_get X k1 rfl iwX5 0 (by decide) mw_65 (v := .ref (ex_ad E (gx_r u v0 0))) rfl dX5_writeValue_5 ?_
  obtain ⟨k2, h⟩ := h
  refine gx_ki (gx_rV X (c_X0_size h) (Nat.le_trans (by decide) hd) (Nat.le_trans (by decide) (Nat.mul_le_mul_left 40 hd)) k2 rfl mw_269 mw_128 mw_129 mw_2 mw_130 hyX0_size (As := []) (rest := [.ref (ex_ad E (gx_r u v0 0))]) rfl rfl (Nat.le_of_ble_eq_true rfl) dX5_writeValue_8) (fun r4 u3 h => ?_)
  refine gx_aload_n X (j := 1) dX5_writeValue_11 rfl rfl ?_
  refine gx_iconst X (v := 0) dX5_writeValue_12 (by decide) ?_
  refine gx_aload_n X (j := 1) dX5_writeValue_13 rfl rfl ?_
  obtain ⟨k5, h⟩ := h
  refine gx_ki (gx_rV X (c_X0_size h) (Nat.le_trans (by decide) hd) (Nat.le_trans (by decide) (Nat.mul_le_mul_left 40 hd)) k5 rfl mw_269 mw_128 mw_129 mw_2 mw_130 hyX0_size (As := []) (rest := [.int (0 : Int32), .ref (ex_ad E v1), .int r4, .ref (ex_ad E (gx_r u v0 0))]) rfl rfl (Nat.le_of_ble_eq_true rfl) dX5_writeValue_14) (fun r7 u6 h => ?_)
  refine gx_ki (gx_rS X (c_X5_valueOf h) (Nat.le_trans (by decide) hd) (Nat.le_trans (by decide) (Nat.mul_le_mul_left 40 hd)) mw_279 mw_280 mw_4 mw_281 hyX5_valueOf (As := [.ref (ex_ad E (gx_r u v0 0)), .int r4, .ref (ex_ad E v1), .int (0 : Int32), .int r7]) (rest := []) rfl rfl (Nat.le_of_ble_eq_true rfl) dX5_writeValue_17) (fun r9 u8 h => ?_)
  refine gx_istore_n X (lv' := [(3, .int r9), (0, .ref (ex_ad E v0)), (1, .ref (ex_ad E v1)), (2, .ref (ex_ad E v2))]) dX5_writeValue_20 rfl (by decide) rfl ?_
  refine gx_iload_n X (j := 0) dX5_writeValue_21 rfl rfl ?_
  refine gx_bipush X (v := -2) dX5_writeValue_22 (by decide) ?_
  refine gx_icmp_ne X (tgt := 30) dX5_writeValue_24 (by decide) (fun c18 => ?_) (fun c18 => ?_)
  · replace h := h.1 c18
    refine gx_aload_n X (j := 3) dX5_writeValue_30 rfl rfl ?_
    obtain ⟨k10, h⟩ := h
    refine gx_kv (gx_rV X (c_X0_clear h) (Nat.le_trans (by decide) hd) (Nat.le_trans (by decide) (Nat.mul_le_mul_left 40 hd)) k10 rfl mw_298 mw_192 mw_193 mw_2 mw_194 hyX0_clear (As := []) (rest := []) rfl rfl (Nat.le_of_ble_eq_true rfl) dX5_writeValue_31) (fun u11 h => ?_)
    refine gx_aload_n X (j := 3) dX5_writeValue_34 rfl rfl ?_
    refine gx_aload_n X (j := 1) dX5_writeValue_35 rfl rfl ?_
    refine gx_get X k1 rfl iwX5 0 (by decide) mw_65 (v := .ref (ex_ad E (gx_r u11 v0 0))) rfl dX5_writeValue_36 ?_
    refine gx_iload_n X (j := 0) dX5_writeValue_39 rfl rfl ?_
    refine gx_aload_n X (j := 1) dX5_writeValue_40 rfl rfl ?_
    refine gx_get X k1 rfl iwX5 0 (by decide) mw_65 (v := .ref (ex_ad E (gx_r u11 v0 0))) rfl dX5_writeValue_41 ?_
    refine gx_bipush X (v := 59) dX5_writeValue_44 (by decide) ?_
    refine gx_iload_n X (j := 0) dX5_writeValue_46 rfl rfl ?_
    obtain ⟨k12, h⟩ := h
    refine gx_ki (gx_rV X (c_X0_find h) (Nat.le_trans (by decide) hd) (Nat.le_trans (by decide) (Nat.mul_le_mul_left 40 hd)) k12 rfl mw_285 mw_286 mw_287 mw_2 mw_288 hyX0_find (As := [.int (59 : Int32), .int r9]) (rest := [.int r9, .ref (ex_ad E (gx_r u11 v0 0)), .ref (ex_ad E v2)]) rfl rfl (Nat.le_of_ble_eq_true rfl) dX5_writeValue_47) (fun r14 u13 h => ?_)
    refine gx_kv (gx_rV X (c_X0_addPart h) (Nat.le_trans (by decide) hd) (Nat.le_trans (by decide) (Nat.mul_le_mul_left 40 hd)) k10 rfl mw_299 mw_196 mw_197 mw_2 mw_198 hyX0_addPart (As := [.ref (ex_ad E (gx_r u11 v0 0)), .int r9, .int r14]) (rest := []) rfl rfl (Nat.le_of_ble_eq_true rfl) dX5_writeValue_50) (fun u15 h => ?_)
    refine gx_aload_n X (j := 3) dX5_writeValue_53 rfl rfl ?_
    refine gx_ki (gx_rV X (c_X0_size h) (Nat.le_trans (by decide) hd) (Nat.le_trans (by decide) (Nat.mul_le_mul_left 40 hd)) k10 rfl mw_269 mw_128 mw_129 mw_2 mw_130 hyX0_size (As := []) (rest := []) rfl rfl (Nat.le_of_ble_eq_true rfl) dX5_writeValue_54) (fun r17 u16 h => ?_)
    exact gx_iret X hQ h dX5_writeValue_57
  · replace h := h.2 c18
    refine gx_bipush X (v := -2) dX5_writeValue_27 (by decide) ?_
    exact gx_iret X hQ h dX5_writeValue_29
theorem c_X5_writeValue {l : Launch} {Z : gx_Z} {u : gx_S} {v0 : Nat} {v1 : Nat} {v2 : Nat} {post : Int32 → gx_S → Prop} (h : S_X5_writeValue u v0 v1 v2 post) : Met l yX5_writeValue (Cond.code yX5_writeValue cX5_writeValue 4 (some .int) :: gx_TB) (gx_rm 3) (gx_Pre Z u [.ref (Z.2.1 v0), .ref (Z.2.1 v1), .ref (Z.2.1 v2)]) (va_Qi post (gx_B Z) (gx_A Z)) 0 0 (gx_A Z) := by
  refine gx_met (by decide +kernel) (Nat.le_of_ble_eq_true rfl) ?_
  intro E X hZ hQ hD hL
  subst hZ
  exact w_X5_writeValue X (Nat.le_of_eq hD.symm) hQ h
/-- bytes without white and newlines and without a ; at the end -/
def bareT (T : List Nat) : List Nat := if 0 < (T.filter bare).length ∧ ch (T.filter bare) ((T.filter bare).length - 1) = 59 then (T.filter bare).take ((T.filter bare).length - 1) else T.filter bare
theorem neg1 : nI 0 - (1 : Int32) < 0 := by decide
theorem tg_end {u : gx_S} {B G : List Nat} {post : Int32 → gx_S → Prop} (hf : cfix u) (hB : byL u 1 B) (hG : byL u 6 G) (h0 : ct B = 0 → post (-1) u) (h1 : ct B ≠ 0 → byU u 6 B (post (nI (ct B)))) : S_X5_countTags u 1 (fun (r8 : Int32) (u7 : gx_S) => ((¬ r8 = 0 → (gx_isO 5 4 ∧ (gx_isO (gx_r u7 5 0) 0 ∧ S_X0_become u7 (gx_r u7 5 0) 1 (fun (u11 : gx_S) => post r8 u11)))) ∧ (r8 = 0 → post (-1 : Int32) u7))) := by
  have h40 := ct_le B
  refine ⟨B, hB, ⟨fun z => ⟨isO_x 5 4 (by decide), ?_⟩, fun z => h0 ((nI_eq (b := 0) (by omega) (by omega)).mp z)⟩⟩
  rw [show gx_r u 5 0 = 6 from hf 5 0 (by decide)]
  exact ⟨hG.1, i_X0_become hG hB (by decide) (by rw [hf 1 0 (by decide), hf 6 0 (by decide)]; decide) (h1 (fun e => z (by rw [e]; rfl)))⟩
theorem i_X5_read {u : gx_S} {T G : List Nat} {post : Int32 → gx_S → Prop} (hf : cfix u) (hT : byL u 1 T) (hG : byL u 6 G) (h : byU u 1 (bareT T) (fun u1 => (ct (bareT T) = 0 → post (-1) u1) ∧ (ct (bareT T) ≠ 0 → byU u1 6 (bareT T) (post (nI (ct (bareT T))))))) : S_X5_read u 5 1 post := by
  have hT2 := hT.2.2.2.2.1
  have hfl := List.length_filter_le bare T
  have hr16 : gx_r u 6 0 ≠ gx_r u 1 0 := by rw [hf 1 0 (by decide), hf 6 0 (by decide)]; decide
  refine ⟨hT.1, T, hT, fun f hf2 => ?_⟩
  have hB : byL (byW u 1 f (T.filter bare).length) 1 (T.filter bare) := byL_W hT hf2 (by omega)
  have hG1 : byL (byW u 1 f (T.filter bare).length) 6 G := byL_ne hG (by decide) hr16
  have hf1 : cfix (byW u 1 f (T.filter bare).length) := fun o k h => hf o k h
  refine i_X0_size hB ?_
  have key1 : bareT T = T.filter bare → S_X5_countTags (byW u 1 f (T.filter bare).length) 1 (fun (r8 : Int32) (u7 : gx_S) => ((¬ r8 = 0 → (gx_isO 5 4 ∧ (gx_isO (gx_r u7 5 0) 0 ∧ S_X0_become u7 (gx_r u7 5 0) 1 (fun (u11 : gx_S) => post r8 u11)))) ∧ (r8 = 0 → post (-1 : Int32) u7))) := by
    intro e
    rw [e] at h
    have := h f hf2
    exact tg_end hf1 hB hG1 this.1 this.2
  by_cases h0 : (T.filter bare).length = 0
  · have e : bareT T = T.filter bare := by unfold bareT; rw [if_neg (by omega)]
    rw [h0]
    refine i_X0_at_neg neg1 ⟨fun _ => ?_, fun z => absurd z (by decide)⟩
    have := key1 e
    rwa [h0] at this
  · rw [show (1 : Int32) = nI 1 from rfl, pk_sub (by omega)]
    refine i_X0_at hB (by omega) ⟨fun z => ?_, fun z => i_X0_size hB ?_⟩
    · exact key1 (by unfold bareT; rw [if_neg (fun e => z ((cI_eq (k := 59) (by omega)).mpr e.2))])
    · rw [pk_sub (by omega)]
      have z2 : ch (T.filter bare) ((T.filter bare).length - 1) = 59 := (cI_eq (k := 59) (by omega)).mp z
      have e : bareT T = (T.filter bare).take ((T.filter bare).length - 1) := by unfold bareT; rw [if_pos ⟨by omega, z2⟩]
      rw [e] at h
      refine i_X0_cutTo hB (by omega) (fun g hg => ?_)
      have := h g hg
      rw [byW_W]
      exact tg_end (fun o k h => hf o k h) (byL_W hT hg (by rw [List.length_take]; omega)) (byL_ne hG (by decide) hr16) this.1 this.2
def tvO (G : List Nat) (v : Nat) : List Nat := (G.drop v).take (fnd G 59 v - v)
theorem i_X5_writeValue {u : gx_S} {N G O : List Nat} {post : Int32 → gx_S → Prop} (hf : cfix u) (hN : byL u 1 N) (hG : byL u 6 G) (hO : byL u 2 O) (h0 : vo G G.length N 0 N.length = none → post (-2) u) (h1 : ∀ v, vo G G.length N 0 N.length = some v → byU u 2 (tvO G v) (post (nI (tvO G v).length))) : S_X5_writeValue u 5 1 2 post := by
  have hN2 := hN.2.2.2.2.1
  have hG2 := hG.2.2.2.2.1
  have hv : ∀ v, vo G G.length N 0 N.length = some v → v < 2 ^ 27 := fun v e => by have := voF_lt 40 0 e; omega
  unfold S_X5_writeValue
  rw [show gx_r u 5 0 = 6 from hf 5 0 (by decide)]
  refine ⟨isO_x 5 4 (by decide), hG.1, i_X0_size hG ⟨hN.1, i_X0_size hN ⟨G, N, G.length, 0, N.length, hG, hN, by omega, by omega, by omega, rfl, nI_0.symm, rfl, ⟨fun z => ⟨hO.1, ?_⟩, fun z => h0 ((oI_none (fun v e => by have := hv v e; omega)).mp z)⟩⟩⟩⟩
  cases hvo : vo G G.length N 0 N.length with
  | none => rw [hvo] at z; exact absurd rfl z
  | some v =>
    have hv2 := hv v hvo
    have hfl := fnd_le G 59 v
    have hr : gx_r u 6 0 ≠ gx_r u 2 0 := by rw [hf 2 0 (by decide), hf 6 0 (by decide)]; decide
    refine i_X0_clear hO (fun f hf2 => ?_)
    rw [byW_r, show gx_r u 5 0 = 6 from hf 5 0 (by decide)]
    have hG1 : byL (byW u 2 f ([] : List Nat).length) 6 G := byL_ne hG (by decide) hr
    refine ⟨hG1.1, G, 59, v, hG1, by omega, rfl, by omega, rfl, [], G, v, fnd G 59 v, byL_W hO hf2 (by simp), hG1, by decide, hr, rfl, rfl, by omega, hfl, by simp; omega, byU_W (fun g hg => ?_)⟩
    rw [List.nil_append] at hg ⊢
    have hlt : (tvO G v).length ≤ 2000 := by unfold tvO; rw [List.length_take, List.length_drop]; omega
    exact i_X0_size (byL_W hO hg hlt) (h1 v hvo g hg)

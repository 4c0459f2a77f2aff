-- PlainSeal.feed(IIIII)I
theorem dX6_feed_0 : decode cX6_feed 0 = .ok (.aload_n 0, 1) := by decide +kernel
theorem dX6_feed_1 : decode cX6_feed 1 = .ok (.getfield 10, 3) := by decide +kernel
theorem dX6_feed_4 : decode cX6_feed 4 = .ok (.invokevirtual 47, 3) := by decide +kernel
theorem dX6_feed_7 : decode cX6_feed 7 = .ok (.bipush 20, 2) := by decide +kernel
theorem dX6_feed_9 : decode cX6_feed 9 = .ok (.iadd, 1) := by decide +kernel
theorem dX6_feed_10 : decode cX6_feed 10 = .ok (.sipush 2000, 3) := by decide +kernel
theorem dX6_feed_13 : decode cX6_feed 13 = .ok (.if_icmp .le 6, 3) := by decide +kernel
theorem dX6_feed_16 : decode cX6_feed 16 = .ok (.bipush (-3), 2) := by decide +kernel
theorem dX6_feed_18 : decode cX6_feed 18 = .ok (.ireturn, 1) := by decide +kernel
theorem dX6_feed_19 : decode cX6_feed 19 = .ok (.aload_n 0, 1) := by decide +kernel
theorem dX6_feed_20 : decode cX6_feed 20 = .ok (.getfield 10, 3) := by decide +kernel
theorem dX6_feed_23 : decode cX6_feed 23 = .ok (.iload_n 1, 1) := by decide +kernel
theorem dX6_feed_24 : decode cX6_feed 24 = .ok (.invokevirtual 51, 3) := by decide +kernel
theorem dX6_feed_27 : decode cX6_feed 27 = .ok (.aload_n 0, 1) := by decide +kernel
theorem dX6_feed_28 : decode cX6_feed 28 = .ok (.getfield 10, 3) := by decide +kernel
theorem dX6_feed_31 : decode cX6_feed 31 = .ok (.iload_n 2, 1) := by decide +kernel
theorem dX6_feed_32 : decode cX6_feed 32 = .ok (.invokevirtual 51, 3) := by decide +kernel
theorem dX6_feed_35 : decode cX6_feed 35 = .ok (.aload_n 0, 1) := by decide +kernel
theorem dX6_feed_36 : decode cX6_feed 36 = .ok (.getfield 10, 3) := by decide +kernel
theorem dX6_feed_39 : decode cX6_feed 39 = .ok (.iload_n 3, 1) := by decide +kernel
theorem dX6_feed_40 : decode cX6_feed 40 = .ok (.invokevirtual 51, 3) := by decide +kernel
theorem dX6_feed_43 : decode cX6_feed 43 = .ok (.aload_n 0, 1) := by decide +kernel
theorem dX6_feed_44 : decode cX6_feed 44 = .ok (.getfield 10, 3) := by decide +kernel
theorem dX6_feed_47 : decode cX6_feed 47 = .ok (.iload 4, 2) := by decide +kernel
theorem dX6_feed_49 : decode cX6_feed 49 = .ok (.invokevirtual 51, 3) := by decide +kernel
theorem dX6_feed_52 : decode cX6_feed 52 = .ok (.aload_n 0, 1) := by decide +kernel
theorem dX6_feed_53 : decode cX6_feed 53 = .ok (.getfield 10, 3) := by decide +kernel
theorem dX6_feed_56 : decode cX6_feed 56 = .ok (.iload 5, 2) := by decide +kernel
theorem dX6_feed_58 : decode cX6_feed 58 = .ok (.invokevirtual 51, 3) := by decide +kernel
theorem dX6_feed_61 : decode cX6_feed 61 = .ok (.aload_n 0, 1) := by decide +kernel
theorem dX6_feed_62 : decode cX6_feed 62 = .ok (.getfield 10, 3) := by decide +kernel
theorem dX6_feed_65 : decode cX6_feed 65 = .ok (.invokevirtual 47, 3) := by decide +kernel
theorem dX6_feed_68 : decode cX6_feed 68 = .ok (.ireturn, 1) := by decide +kernel
theorem hyX6_feed : yX6_feed.cls ≠ "java/lang/invoke/MethodHandle" ∧ yX6_feed.cls ≠ "java/lang/invoke/VarHandle" ∧ (parseMethodDescriptor yX6_feed.desc).map (fun d => d.parameters.length) = some 5 := by decide +kernel
def S_X6_feed (u : gx_S) (v0 : Nat) (v1 : Int32) (v2 : Int32) (v3 : Int32) (v4 : Int32) (v5 : Int32) (post : Int32 → gx_S → Prop) : Prop := (gx_isO v0 5 ∧ (gx_isO (gx_r u v0 0) 0 ∧ S_X0_size u (gx_r u v0 0) (fun (r4 : Int32) (u3 : gx_S) => (((r4 + (20 : Int32)) ≤ (2000 : Int32) → (gx_isO (gx_r u3 v0 0) 0 ∧ S_X0_addWord u3 (gx_r u3 v0 0) v1 (fun (u6 : gx_S) => (gx_isO (gx_r u6 v0 0) 0 ∧ S_X0_addWord u6 (gx_r u6 v0 0) v2 (fun (u8 : gx_S) => (gx_isO (gx_r u8 v0 0) 0 ∧ S_X0_addWord u8 (gx_r u8 v0 0) v3 (fun (u10 : gx_S) => (gx_isO (gx_r u10 v0 0) 0 ∧ S_X0_addWord u10 (gx_r u10 v0 0) v4 (fun (u12 : gx_S) => (gx_isO (gx_r u12 v0 0) 0 ∧ S_X0_addWord u12 (gx_r u12 v0 0) v5 (fun (u14 : gx_S) => (gx_isO (gx_r u14 v0 0) 0 ∧ S_X0_size u14 (gx_r u14 v0 0) (fun (r17 : Int32) (u16 : gx_S) => post r17 u16))))))))))))) ∧ (¬ (r4 + (20 : Int32)) ≤ (2000 : Int32) → post (-3 : Int32) u3)))))
set_option maxHeartbeats 4000000 in
set_option maxRecDepth 100000 in
theorem w_X6_feed {E : gx_E} (X : gx_X E cX6_feed 6 RX6 (some .int)) (hd : 2 ≤ ex_d E) {post : Int32 → gx_S → Prop} (hQ : ex_Q E = va_Qi post (gx_B (ex_Z E)) (gx_A (ex_Z E))) {u : gx_S} {v0 : Nat} {v1 : Int32} {v2 : Int32} {v3 : Int32} {v4 : Int32} {v5 : Int32} (h : S_X6_feed u v0 v1 v2 v3 v4 v5 post) : gx_Wc E 6 0 [(0, .ref (ex_ad E v0)), (1, .int v1), (2, .int v2), (3, .int v3), (4, .int v4), (5, .int v5)] [] u := by
  unfold S_X6_feed at h
  refine gx_aload_n X (j := 0) dX6_feed_0 rfl rfl ?_
  obtain ⟨k1, h⟩ := h
  refine gx_get X k1 rfl iwX6 0 (by decide) mw_104 (v := .ref (ex_ad E (gx_r u v0 0))) rfl dX6_feed_1 ?_
  obtain ⟨k2, h⟩ := h
  refine gx_ki (gx_rV X (c_X0_size h) (Nat.le_trans (by decide) hd) (Nat.le_trans (by decide) (Nat.mul_le_mul_left 40 hd)) k2 rfl mw_127 mw_128 mw_129 mw_2 mw_130 hyX0_size (As := []) (rest := []) rfl rfl (Nat.le_of_ble_eq_true rfl) dX6_feed_4) (fun r4 u3 h => ?_)
  refine gx_bipush X (v := 20) dX6_feed_7 (by decide) ?_
  refine gx_iadd X dX6_feed_9 ?_
  refine gx_sipush X (v := 2000) dX6_feed_10 (by decide) ?_
  refine gx_icmp_le X (tgt := 19) dX6_feed_13 (by decide) (fun c18 => ?_) (fun c18 => ?_)
  · replace h := h.1 c18
    refine gx_aload_n X (j := 0) dX6_feed_19 rfl rfl ?_
    refine gx_get X k1 rfl iwX6 0 (by decide) mw_104 (v := .ref (ex_ad E (gx_r u3 v0 0))) rfl dX6_feed_20 ?_
    refine gx_iload_n X (j := 1) dX6_feed_23 rfl rfl ?_
    obtain ⟨k5, h⟩ := h
    refine gx_kv (gx_rV X (c_X0_addWord h) (Nat.le_trans (by decide) hd) (Nat.le_trans (by decide) (Nat.mul_le_mul_left 40 hd)) k5 rfl mw_131 mw_132 mw_133 mw_2 mw_134 hyX0_addWord (As := [.int v1]) (rest := []) rfl rfl (Nat.le_of_ble_eq_true rfl) dX6_feed_24) (fun u6 h => ?_)
    refine gx_aload_n X (j := 0) dX6_feed_27 rfl rfl ?_
    refine gx_get X k1 rfl iwX6 0 (by decide) mw_104 (v := .ref (ex_ad E (gx_r u6 v0 0))) rfl dX6_feed_28 ?_
    refine gx_iload_n X (j := 2) dX6_feed_31 rfl rfl ?_
    obtain ⟨k7, h⟩ := h
    refine gx_kv (gx_rV X (c_X0_addWord h) (Nat.le_trans (by decide) hd) (Nat.le_trans (by decide) (Nat.mul_le_mul_left 40 hd)) k7 rfl mw_131 mw_132 mw_133 mw_2 mw_134 hyX0_addWord (As := [.int v2]) (rest := []) rfl rfl (Nat.le_of_ble_eq_true rfl) dX6_feed_32) (fun u8 h => ?_)
    refine gx_aload_n X (j := 0) dX6_feed_35 rfl rfl ?_
    refine gx_get X k1 rfl iwX6 0 (by decide) mw_104 (v := .ref (ex_ad E (gx_r u8 v0 0))) rfl dX6_feed_36 ?_
    refine gx_iload_n X (j := 3) dX6_feed_39 rfl rfl ?_
    obtain ⟨k9, h⟩ := h
    refine gx_kv (gx_rV X (c_X0_addWord h) (Nat.le_trans (by decide) hd) (Nat.le_trans (by decide) (Nat.mul_le_mul_left 40 hd)) k9 rfl mw_131 mw_132 mw_133 mw_2 mw_134 hyX0_addWord (As := [.int v3]) (rest := []) rfl rfl (Nat.le_of_ble_eq_true rfl) dX6_feed_40) (fun u10 h => ?_)
    refine gx_aload_n X (j := 0) dX6_feed_43 rfl rfl ?_
    refine gx_get X k1 rfl iwX6 0 (by decide) mw_104 (v := .ref (ex_ad E (gx_r u10 v0 0))) rfl dX6_feed_44 ?_
    refine gx_iload X (j := 4) dX6_feed_47 rfl ?_
    obtain ⟨k11, h⟩ := h
    refine gx_kv (gx_rV X (c_X0_addWord h) (Nat.le_trans (by decide) hd) (Nat.le_trans (by decide) (Nat.mul_le_mul_left 40 hd)) k11 rfl mw_131 mw_132 mw_133 mw_2 mw_134 hyX0_addWord (As := [.int v4]) (rest := []) rfl rfl (Nat.le_of_ble_eq_true rfl) dX6_feed_49) (fun u12 h => ?_)
    refine gx_aload_n X (j := 0) dX6_feed_52 rfl rfl ?_
    refine gx_get X k1 rfl iwX6 0 (by decide) mw_104 (v := .ref (ex_ad E (gx_r u12 v0 0))) rfl dX6_feed_53 ?_
    refine gx_iload X (j := 5) dX6_feed_56 rfl ?_
    obtain ⟨k13, h⟩ := h
    refine gx_kv (gx_rV X (c_X0_addWord h) (Nat.le_trans (by decide) hd) (Nat.le_trans (by decide) (Nat.mul_le_mul_left 40 hd)) k13 rfl mw_131 mw_132 mw_133 mw_2 mw_134 hyX0_addWord (As := [.int v5]) (rest := []) rfl rfl (Nat.le_of_ble_eq_true rfl) dX6_feed_58) (fun u14 h => ?_)
    refine gx_aload_n X (j := 0) dX6_feed_61 rfl rfl ?_
    refine gx_get X k1 rfl iwX6 0 (by decide) mw_104 (v := .ref (ex_ad E (gx_r u14 v0 0))) rfl dX6_feed_62 ?_
    obtain ⟨k15, h⟩ := h
    refine gx_ki (gx_rV X (c_X0_size h) (Nat.le_trans (by decide) hd) (Nat.le_trans (by decide) (Nat.mul_le_mul_left 40 hd)) k15 rfl mw_127 mw_128 mw_129 mw_2 mw_130 hyX0_size (As := []) (rest := []) rfl rfl (Nat.le_of_ble_eq_true rfl) dX6_feed_65) (fun r17 u16 h => ?_)
    exact gx_iret X hQ h dX6_feed_68
  · replace h := h.2 c18
    refine gx_bipush X (v := -3) dX6_feed_16 (by decide) ?_
    exact gx_iret X hQ h dX6_feed_18
theorem c_X6_feed {l : Launch} {Z : gx_Z} {u : gx_S} {v0 : Nat} {v1 : Int32} {v2 : Int32} {v3 : Int32} {v4 : Int32} {v5 : Int32} {post : Int32 → gx_S → Prop} (h : S_X6_feed u v0 v1 v2 v3 v4 v5 post) : Met l yX6_feed (Cond.code yX6_feed cX6_feed 6 (some .int) :: gx_TB) (gx_rm 2) (gx_Pre Z u [.ref (Z.2.1 v0), .int v1, .int v2, .int v3, .int v4, .int v5]) (va_Qi post (gx_B Z) (gx_A Z)) 0 0 (gx_A Z) := by
  refine gx_met (by decide +kernel) (Nat.le_of_ble_eq_true rfl) ?_
  intro E X hZ hQ hD hL
  subst hZ
  exact w_X6_feed X (Nat.le_of_eq hD.symm) hQ h
-- PlainSeal.end(I)I
theorem dX6_end_0 : decode cX6_end 0 = .ok (.iload_n 1, 1) := by decide +kernel
theorem dX6_end_1 : decode cX6_end 1 = .ok (.ifCond .lt 14, 3) := by decide +kernel
theorem dX6_end_4 : decode cX6_end 4 = .ok (.iload_n 1, 1) := by decide +kernel
theorem dX6_end_5 : decode cX6_end 5 = .ok (.aload_n 0, 1) := by decide +kernel
theorem dX6_end_6 : decode cX6_end 6 = .ok (.getfield 10, 3) := by decide +kernel
theorem dX6_end_9 : decode cX6_end 9 = .ok (.invokevirtual 47, 3) := by decide +kernel
theorem dX6_end_12 : decode cX6_end 12 = .ok (.if_icmp .le 5, 3) := by decide +kernel
theorem dX6_end_15 : decode cX6_end 15 = .ok (.iconst (-1), 1) := by decide +kernel
theorem dX6_end_16 : decode cX6_end 16 = .ok (.ireturn, 1) := by decide +kernel
theorem dX6_end_17 : decode cX6_end 17 = .ok (.aload_n 0, 1) := by decide +kernel
theorem dX6_end_18 : decode cX6_end 18 = .ok (.getfield 10, 3) := by decide +kernel
theorem dX6_end_21 : decode cX6_end 21 = .ok (.iload_n 1, 1) := by decide +kernel
theorem dX6_end_22 : decode cX6_end 22 = .ok (.invokevirtual 55, 3) := by decide +kernel
theorem dX6_end_25 : decode cX6_end 25 = .ok (.iload_n 1, 1) := by decide +kernel
theorem dX6_end_26 : decode cX6_end 26 = .ok (.ireturn, 1) := by decide +kernel
theorem hyX6_end : yX6_end.cls ≠ "java/lang/invoke/MethodHandle" ∧ yX6_end.cls ≠ "java/lang/invoke/VarHandle" ∧ (parseMethodDescriptor yX6_end.desc).map (fun d => d.parameters.length) = some 1 := by decide +kernel
def S_X6_end (u : gx_S) (v0 : Nat) (v1 : Int32) (post : Int32 → gx_S → Prop) : Prop := ((v1 < 0 → post (-1 : Int32) u) ∧ (¬ v1 < 0 → (gx_isO v0 5 ∧ (gx_isO (gx_r u v0 0) 0 ∧ S_X0_size u (gx_r u v0 0) (fun (r4 : Int32) (u3 : gx_S) => ((v1 ≤ r4 → (gx_isO (gx_r u3 v0 0) 0 ∧ S_X0_cutTo u3 (gx_r u3 v0 0) v1 (fun (u6 : gx_S) => post v1 u6))) ∧ (¬ v1 ≤ r4 → post (-1 : Int32) u3)))))))
set_option maxHeartbeats 4000000 in
set_option maxRecDepth 100000 in
theorem w_X6_end {E : gx_E} (X : gx_X E cX6_end 2 RX6 (some .int)) (hd : 1 ≤ ex_d E) {post : Int32 → gx_S → Prop} (hQ : ex_Q E = va_Qi post (gx_B (ex_Z E)) (gx_A (ex_Z E))) {u : gx_S} {v0 : Nat} {v1 : Int32} (h : S_X6_end u v0 v1 post) : gx_Wc E 2 0 [(0, .ref (ex_ad E v0)), (1, .int v1)] [] u := by
  unfold S_X6_end at h
  refine gx_iload_n X (j := 1) dX6_end_0 rfl rfl ?_
  refine gx_if_lt X (tgt := 15) dX6_end_1 (by decide) (fun c8 => ?_) (fun c8 => ?_)
  · replace h := h.1 c8
    refine gx_iconst X (v := -1) dX6_end_15 (by decide) ?_
    exact gx_iret X hQ h dX6_end_16
  · replace h := h.2 c8
    refine gx_iload_n X (j := 1) dX6_end_4 rfl rfl ?_
    refine gx_aload_n X (j := 0) dX6_end_5 rfl rfl ?_
    obtain ⟨k1, h⟩ := h
    refine gx_get X k1 rfl iwX6 0 (by decide) mw_104 (v := .ref (ex_ad E (gx_r u v0 0))) rfl dX6_end_6 ?_
    obtain ⟨k2, h⟩ := h
    refine gx_ki (gx_rV X (c_X0_size h) (Nat.le_trans (by decide) hd) (Nat.le_trans (by decide) (Nat.mul_le_mul_left 40 hd)) k2 rfl mw_127 mw_128 mw_129 mw_2 mw_130 hyX0_size (As := []) (rest := [.int v1]) rfl rfl (Nat.le_of_ble_eq_true rfl) dX6_end_9) (fun r4 u3 h => ?_)
    refine gx_icmp_le X (tgt := 17) dX6_end_12 (by decide) (fun c7 => ?_) (fun c7 => ?_)
    · replace h := h.1 c7
      refine gx_aload_n X (j := 0) dX6_end_17 rfl rfl ?_
      refine gx_get X k1 rfl iwX6 0 (by decide) mw_104 (v := .ref (ex_ad E (gx_r u3 v0 0))) rfl dX6_end_18 ?_
      refine gx_iload_n X (j := 1) dX6_end_21 rfl rfl ?_
      obtain ⟨k5, h⟩ := h
      refine gx_kv (gx_rV X (c_X0_cutTo h) (Nat.le_trans (by decide) hd) (Nat.le_trans (by decide) (Nat.mul_le_mul_left 40 hd)) k5 rfl mw_143 mw_144 mw_145 mw_2 mw_146 hyX0_cutTo (As := [.int v1]) (rest := []) rfl rfl (Nat.le_of_ble_eq_true rfl) dX6_end_22) (fun u6 h => ?_)
      refine gx_iload_n X (j := 1) dX6_end_25 rfl rfl ?_
      exact gx_iret X hQ h dX6_end_26
    · replace h := h.2 c7
      refine gx_iconst X (v := -1) dX6_end_15 (by decide) ?_
      exact gx_iret X hQ h dX6_end_16
theorem c_X6_end {l : Launch} {Z : gx_Z} {u : gx_S} {v0 : Nat} {v1 : Int32} {post : Int32 → gx_S → Prop} (h : S_X6_end u v0 v1 post) : Met l yX6_end (Cond.code yX6_end cX6_end 2 (some .int) :: gx_TB) (gx_rm 1) (gx_Pre Z u [.ref (Z.2.1 v0), .int v1]) (va_Qi post (gx_B Z) (gx_A Z)) 0 0 (gx_A Z) := by
  refine gx_met (by decide +kernel) (Nat.le_of_ble_eq_true rfl) ?_
  intro E X hZ hQ hD hL
  subst hZ
  exact w_X6_end X (Nat.le_of_eq hD.symm) hQ h
-- PlainSeal.message()I
theorem dX6_message_0 : decode cX6_message 0 = .ok (.aload_n 0, 1) := by decide +kernel
theorem dX6_message_1 : decode cX6_message 1 = .ok (.getfield 22, 3) := by decide +kernel
theorem dX6_message_4 : decode cX6_message 4 = .ok (.aload_n 0, 1) := by decide +kernel
theorem dX6_message_5 : decode cX6_message 5 = .ok (.getfield 10, 3) := by decide +kernel
theorem dX6_message_8 : decode cX6_message 8 = .ok (.invokevirtual 58, 3) := by decide +kernel
theorem dX6_message_11 : decode cX6_message 11 = .ok (.istore_n 1, 1) := by decide +kernel
theorem dX6_message_12 : decode cX6_message 12 = .ok (.aload_n 0, 1) := by decide +kernel
theorem dX6_message_13 : decode cX6_message 13 = .ok (.getfield 10, 3) := by decide +kernel
theorem dX6_message_16 : decode cX6_message 16 = .ok (.invokevirtual 62, 3) := by decide +kernel
theorem dX6_message_19 : decode cX6_message 19 = .ok (.iload_n 1, 1) := by decide +kernel
theorem dX6_message_20 : decode cX6_message 20 = .ok (.ireturn, 1) := by decide +kernel
theorem hyX6_message : yX6_message.cls ≠ "java/lang/invoke/MethodHandle" ∧ yX6_message.cls ≠ "java/lang/invoke/VarHandle" ∧ (parseMethodDescriptor yX6_message.desc).map (fun d => d.parameters.length) = some 0 := by decide +kernel
def S_X6_message (u : gx_S) (v0 : Nat) (post : Int32 → gx_S → Prop) : Prop := (gx_isO v0 5 ∧ (gx_isO (gx_r u v0 2) 1 ∧ S_X1_read u (gx_r u v0 2) (gx_r u v0 0) (fun (r4 : Int32) (u3 : gx_S) => (gx_isO (gx_r u3 v0 0) 0 ∧ S_X0_clear u3 (gx_r u3 v0 0) (fun (u6 : gx_S) => post r4 u6)))))
set_option maxHeartbeats 4000000 in
set_option maxRecDepth 100000 in
theorem w_X6_message {E : gx_E} (X : gx_X E cX6_message 2 RX6 (some .int)) (hd : 5 ≤ ex_d E) {post : Int32 → gx_S → Prop} (hQ : ex_Q E = va_Qi post (gx_B (ex_Z E)) (gx_A (ex_Z E))) {u : gx_S} {v0 : Nat} (h : S_X6_message u v0 post) : gx_Wc E 2 0 [(0, .ref (ex_ad E v0))] [] u := by
  unfold S_X6_message at h
  refine gx_aload_n X (j := 0) dX6_message_0 rfl rfl ?_
  obtain ⟨k1, h⟩ := h
  refine gx_get X k1 rfl iwX6 2 (by decide) mw_106 (v := .ref (ex_ad E (gx_r u v0 2))) rfl dX6_message_1 ?_
  refine gx_aload_n X (j := 0) dX6_message_4 rfl rfl ?_
  refine gx_get X k1 rfl iwX6 0 (by decide) mw_104 (v := .ref (ex_ad E (gx_r u v0 0))) rfl dX6_message_5 ?_
  obtain ⟨k2, h⟩ := h
  refine gx_ki (gx_rV X (c_X1_read h) (Nat.le_trans (by decide) hd) (Nat.le_trans (by decide) (Nat.mul_le_mul_left 40 hd)) k2 rfl mw_151 mw_152 mw_153 mw_3 mw_154 hyX1_read (As := [.ref (ex_ad E (gx_r u v0 0))]) (rest := []) rfl rfl (Nat.le_of_ble_eq_true rfl) dX6_message_8) (fun r4 u3 h => ?_)
  refine gx_istore_n X (lv' := [(1, .int r4), (0, .ref (ex_ad E v0))]) dX6_message_11 rfl (by decide) rfl ?_
  refine gx_aload_n X (j := 1) dX6_message_12 rfl rfl ?_
  refine gx_get X k1 rfl iwX6 0 (by decide) mw_104 (v := .ref (ex_ad E (gx_r u3 v0 0))) rfl dX6_message_13 ?_
  obtain ⟨k5, h⟩ := h
  refine gx_kv (gx_rV X (c_X0_clear h) (Nat.le_trans (by decide) hd) (Nat.le_trans (by decide) (Nat.mul_le_mul_left 40 hd)) k5 rfl mw_200 mw_192 mw_193 mw_2 mw_194 hyX0_clear (As := []) (rest := []) rfl rfl (Nat.le_of_ble_eq_true rfl) dX6_message_16) (fun u6 h => ?_)
  refine gx_iload_n X (j := 0) dX6_message_19 rfl rfl ?_
  exact gx_iret X hQ h dX6_message_20
theorem c_X6_message {l : Launch} {Z : gx_Z} {u : gx_S} {v0 : Nat} {post : Int32 → gx_S → Prop} (h : S_X6_message u v0 post) : Met l yX6_message (Cond.code yX6_message cX6_message 2 (some .int) :: gx_TB) (gx_rm 5) (gx_Pre Z u [.ref (Z.2.1 v0)]) (va_Qi post (gx_B Z) (gx_A Z)) 0 0 (gx_A Z) := by
  refine gx_met (by decide +kernel) (Nat.le_of_ble_eq_true rfl) ?_
  intro E X hZ hQ hD hL
  subst hZ
  exact w_X6_message X (Nat.le_of_eq hD.symm) hQ h
-- PlainSeal.plainBody(Z)I
theorem dX6_plainBody_0 : decode cX6_plainBody 0 = .ok (.aload_n 0, 1) := by decide +kernel
theorem dX6_plainBody_1 : decode cX6_plainBody 1 = .ok (.getfield 22, 3) := by decide +kernel
theorem dX6_plainBody_4 : decode cX6_plainBody 4 = .ok (.invokevirtual 65, 3) := by decide +kernel
theorem dX6_plainBody_7 : decode cX6_plainBody 7 = .ok (.ifCond .eq 6, 3) := by decide +kernel
theorem dX6_plainBody_10 : decode cX6_plainBody 10 = .ok (.bipush (-2), 2) := by decide +kernel
theorem dX6_plainBody_12 : decode cX6_plainBody 12 = .ok (.ireturn, 1) := by decide +kernel
theorem dX6_plainBody_13 : decode cX6_plainBody 13 = .ok (.aload_n 0, 1) := by decide +kernel
theorem dX6_plainBody_14 : decode cX6_plainBody 14 = .ok (.getfield 22, 3) := by decide +kernel
theorem dX6_plainBody_17 : decode cX6_plainBody 17 = .ok (.iload_n 1, 1) := by decide +kernel
theorem dX6_plainBody_18 : decode cX6_plainBody 18 = .ok (.aload_n 0, 1) := by decide +kernel
theorem dX6_plainBody_19 : decode cX6_plainBody 19 = .ok (.getfield 16, 3) := by decide +kernel
theorem dX6_plainBody_22 : decode cX6_plainBody 22 = .ok (.invokevirtual 69, 3) := by decide +kernel
theorem dX6_plainBody_25 : decode cX6_plainBody 25 = .ok (.aload_n 0, 1) := by decide +kernel
theorem dX6_plainBody_26 : decode cX6_plainBody 26 = .ok (.getfield 16, 3) := by decide +kernel
theorem dX6_plainBody_29 : decode cX6_plainBody 29 = .ok (.invokevirtual 47, 3) := by decide +kernel
theorem dX6_plainBody_32 : decode cX6_plainBody 32 = .ok (.ireturn, 1) := by decide +kernel
theorem hyX6_plainBody : yX6_plainBody.cls ≠ "java/lang/invoke/MethodHandle" ∧ yX6_plainBody.cls ≠ "java/lang/invoke/VarHandle" ∧ (parseMethodDescriptor yX6_plainBody.desc).map (fun d => d.parameters.length) = some 1 := by decide +kernel
def S_X6_plainBody (u : gx_S) (v0 : Nat) (v1 : Int32) (post : Int32 → gx_S → Prop) : Prop := (gx_isO v0 5 ∧ (gx_isO (gx_r u v0 2) 1 ∧ S_X1_isMissing u (gx_r u v0 2) (fun (r4 : Int32) (u3 : gx_S) => ((r4 = 0 → (gx_isO (gx_r u3 v0 2) 1 ∧ S_X1_writeBody u3 (gx_r u3 v0 2) v1 (gx_r u3 v0 1) (fun (u6 : gx_S) => (gx_isO (gx_r u6 v0 1) 0 ∧ S_X0_size u6 (gx_r u6 v0 1) (fun (r9 : Int32) (u8 : gx_S) => post r9 u8))))) ∧ (¬ r4 = 0 → post (-2 : Int32) u3)))))
set_option maxHeartbeats 4000000 in
set_option maxRecDepth 100000 in
theorem w_X6_plainBody {E : gx_E} (X : gx_X E cX6_plainBody 2 RX6 (some .int)) (hd : 3 ≤ ex_d E) {post : Int32 → gx_S → Prop} (hQ : ex_Q E = va_Qi post (gx_B (ex_Z E)) (gx_A (ex_Z E))) {u : gx_S} {v0 : Nat} {v1 : Int32} (h : S_X6_plainBody u v0 v1 post) : gx_Wc E 2 0 [(0, .ref (ex_ad E v0)), (1, .int v1)] [] u := by
  unfold S_X6_plainBody at h
  refine gx_aload_n X (j := 0) dX6_plainBody_0 rfl rfl ?_
  obtain ⟨k1, h⟩ := h
  refine gx_get X k1 rfl iwX6 2 (by decide) mw_106 (v := .ref (ex_ad E (gx_r u v0 2))) rfl dX6_plainBody_1 ?_
  obtain ⟨k2, h⟩ := h
  refine gx_ki (gx_rV X (c_X1_isMissing h) (Nat.le_trans (by decide) hd) (Nat.le_trans (by decide) (Nat.mul_le_mul_left 40 hd)) k2 rfl mw_205 mw_206 mw_207 mw_3 mw_208 hyX1_isMissing (As := []) (rest := []) rfl rfl (Nat.le_of_ble_eq_true rfl) dX6_plainBody_4) (fun r4 u3 h => ?_)
  refine gx_if_eq X (tgt := 13) dX6_plainBody_7 (by decide) (fun c10 => ?_) (fun c10 => ?_)
  · replace h := h.1 c10
    refine gx_aload_n X (j := 0) dX6_plainBody_13 rfl rfl ?_
    refine gx_get X k1 rfl iwX6 2 (by decide) mw_106 (v := .ref (ex_ad E (gx_r u3 v0 2))) rfl dX6_plainBody_14 ?_
    refine gx_iload_n X (j := 1) dX6_plainBody_17 rfl rfl ?_
    refine gx_aload_n X (j := 0) dX6_plainBody_18 rfl rfl ?_
    refine gx_get X k1 rfl iwX6 1 (by decide) mw_105 (v := .ref (ex_ad E (gx_r u3 v0 1))) rfl dX6_plainBody_19 ?_
    obtain ⟨k5, h⟩ := h
    refine gx_kv (gx_rV X (c_X1_writeBody h) (Nat.le_trans (by decide) hd) (Nat.le_trans (by decide) (Nat.mul_le_mul_left 40 hd)) k5 rfl mw_209 mw_210 mw_211 mw_3 mw_212 hyX1_writeBody (As := [.int v1, .ref (ex_ad E (gx_r u3 v0 1))]) (rest := []) rfl rfl (Nat.le_of_ble_eq_true rfl) dX6_plainBody_22) (fun u6 h => ?_)
    refine gx_aload_n X (j := 0) dX6_plainBody_25 rfl rfl ?_
    refine gx_get X k1 rfl iwX6 1 (by decide) mw_105 (v := .ref (ex_ad E (gx_r u6 v0 1))) rfl dX6_plainBody_26 ?_
    obtain ⟨k7, h⟩ := h
    refine gx_ki (gx_rV X (c_X0_size h) (Nat.le_trans (by decide) hd) (Nat.le_trans (by decide) (Nat.mul_le_mul_left 40 hd)) k7 rfl mw_127 mw_128 mw_129 mw_2 mw_130 hyX0_size (As := []) (rest := []) rfl rfl (Nat.le_of_ble_eq_true rfl) dX6_plainBody_29) (fun r9 u8 h => ?_)
    exact gx_iret X hQ h dX6_plainBody_32
  · replace h := h.2 c10
    refine gx_bipush X (v := -2) dX6_plainBody_10 (by decide) ?_
    exact gx_iret X hQ h dX6_plainBody_12
theorem c_X6_plainBody {l : Launch} {Z : gx_Z} {u : gx_S} {v0 : Nat} {v1 : Int32} {post : Int32 → gx_S → Prop} (h : S_X6_plainBody u v0 v1 post) : Met l yX6_plainBody (Cond.code yX6_plainBody cX6_plainBody 2 (some .int) :: gx_TB) (gx_rm 3) (gx_Pre Z u [.ref (Z.2.1 v0), .int v1]) (va_Qi post (gx_B Z) (gx_A Z)) 0 0 (gx_A Z) := by
  refine gx_met (by decide +kernel) (Nat.le_of_ble_eq_true rfl) ?_
  intro E X hZ hQ hD hL
  subst hZ
  exact w_X6_plainBody X (Nat.le_of_eq hD.symm) hQ h
-- PlainSeal.plainField(IZ)I
theorem dX6_plainField_0 : decode cX6_plainField 0 = .ok (.aload_n 0, 1) := by decide +kernel
theorem dX6_plainField_1 : decode cX6_plainField 1 = .ok (.getfield 22, 3) := by decide +kernel
theorem dX6_plainField_4 : decode cX6_plainField 4 = .ok (.iload_n 1, 1) := by decide +kernel
theorem dX6_plainField_5 : decode cX6_plainField 5 = .ok (.invokevirtual 73, 3) := by decide +kernel
theorem dX6_plainField_8 : decode cX6_plainField 8 = .ok (.ifCond .ne 6, 3) := by decide +kernel
theorem dX6_plainField_11 : decode cX6_plainField 11 = .ok (.bipush (-2), 2) := by decide +kernel
theorem dX6_plainField_13 : decode cX6_plainField 13 = .ok (.ireturn, 1) := by decide +kernel
theorem dX6_plainField_14 : decode cX6_plainField 14 = .ok (.iload_n 2, 1) := by decide +kernel
theorem dX6_plainField_15 : decode cX6_plainField 15 = .ok (.ifCond .eq 18, 3) := by decide +kernel
theorem dX6_plainField_18 : decode cX6_plainField 18 = .ok (.aload_n 0, 1) := by decide +kernel
theorem dX6_plainField_19 : decode cX6_plainField 19 = .ok (.getfield 22, 3) := by decide +kernel
theorem dX6_plainField_22 : decode cX6_plainField 22 = .ok (.iload_n 1, 1) := by decide +kernel
theorem dX6_plainField_23 : decode cX6_plainField 23 = .ok (.aload_n 0, 1) := by decide +kernel
theorem dX6_plainField_24 : decode cX6_plainField 24 = .ok (.getfield 16, 3) := by decide +kernel
theorem dX6_plainField_27 : decode cX6_plainField 27 = .ok (.invokevirtual 77, 3) := by decide +kernel
theorem dX6_plainField_30 : decode cX6_plainField 30 = .ok (.goto 15, 3) := by decide +kernel
theorem dX6_plainField_33 : decode cX6_plainField 33 = .ok (.aload_n 0, 1) := by decide +kernel
theorem dX6_plainField_34 : decode cX6_plainField 34 = .ok (.getfield 22, 3) := by decide +kernel
theorem dX6_plainField_37 : decode cX6_plainField 37 = .ok (.iload_n 1, 1) := by decide +kernel
theorem dX6_plainField_38 : decode cX6_plainField 38 = .ok (.aload_n 0, 1) := by decide +kernel
theorem dX6_plainField_39 : decode cX6_plainField 39 = .ok (.getfield 16, 3) := by decide +kernel
theorem dX6_plainField_42 : decode cX6_plainField 42 = .ok (.invokevirtual 81, 3) := by decide +kernel
theorem dX6_plainField_45 : decode cX6_plainField 45 = .ok (.aload_n 0, 1) := by decide +kernel
theorem dX6_plainField_46 : decode cX6_plainField 46 = .ok (.getfield 16, 3) := by decide +kernel
theorem dX6_plainField_49 : decode cX6_plainField 49 = .ok (.invokevirtual 47, 3) := by decide +kernel
theorem dX6_plainField_52 : decode cX6_plainField 52 = .ok (.ireturn, 1) := by decide +kernel
theorem hyX6_plainField : yX6_plainField.cls ≠ "java/lang/invoke/MethodHandle" ∧ yX6_plainField.cls ≠ "java/lang/invoke/VarHandle" ∧ (parseMethodDescriptor yX6_plainField.desc).map (fun d => d.parameters.length) = some 2 := by decide +kernel
def S_X6_plainField (u : gx_S) (v0 : Nat) (v1 : Int32) (v2 : Int32) (post : Int32 → gx_S → Prop) : Prop := (gx_isO v0 5 ∧ (gx_isO (gx_r u v0 2) 1 ∧ S_X1_hasField u (gx_r u v0 2) v1 (fun (r4 : Int32) (u3 : gx_S) => ((¬ r4 = 0 → ((v2 = 0 → (gx_isO (gx_r u3 v0 2) 1 ∧ S_X1_writeSimpleField u3 (gx_r u3 v0 2) v1 (gx_r u3 v0 1) (fun (u6 : gx_S) => (gx_isO (gx_r u6 v0 1) 0 ∧ S_X0_size u6 (gx_r u6 v0 1) (fun (r9 : Int32) (u8 : gx_S) => post r9 u8))))) ∧ (¬ v2 = 0 → (gx_isO (gx_r u3 v0 2) 1 ∧ S_X1_writeRelaxedField u3 (gx_r u3 v0 2) v1 (gx_r u3 v0 1) (fun (u11 : gx_S) => (gx_isO (gx_r u11 v0 1) 0 ∧ S_X0_size u11 (gx_r u11 v0 1) (fun (r14 : Int32) (u13 : gx_S) => post r14 u13))))))) ∧ (r4 = 0 → post (-2 : Int32) u3)))))
set_option maxHeartbeats 4000000 in
set_option maxRecDepth 100000 in
theorem w_X6_plainField {E : gx_E} (X : gx_X E cX6_plainField 3 RX6 (some .int)) (hd : 4 ≤ ex_d E) {post : Int32 → gx_S → Prop} (hQ : ex_Q E = va_Qi post (gx_B (ex_Z E)) (gx_A (ex_Z E))) {u : gx_S} {v0 : Nat} {v1 : Int32} {v2 : Int32} (h : S_X6_plainField u v0 v1 v2 post) : gx_Wc E 3 0 [(0, .ref (ex_ad E v0)), (1, .int v1), (2, .int v2)] [] u := by
  unfold S_X6_plainField at h
  refine gx_aload_n X (j := 0) dX6_plainField_0 rfl rfl ?_
  obtain ⟨k1, h⟩ := h
  refine gx_get X k1 rfl iwX6 2 (by decide) mw_106 (v := .ref (ex_ad E (gx_r u v0 2))) rfl dX6_plainField_1 ?_
  refine gx_iload_n X (j := 1) dX6_plainField_4 rfl rfl ?_
  obtain ⟨k2, h⟩ := h
  refine gx_ki (gx_rV X (c_X1_hasField h) (Nat.le_trans (by decide) hd) (Nat.le_trans (by decide) (Nat.mul_le_mul_left 40 hd)) k2 rfl mw_223 mw_224 mw_225 mw_3 mw_226 hyX1_hasField (As := [.int v1]) (rest := []) rfl rfl (Nat.le_of_ble_eq_true rfl) dX6_plainField_5) (fun r4 u3 h => ?_)
  refine gx_if_ne X (tgt := 14) dX6_plainField_8 (by decide) (fun c16 => ?_) (fun c16 => ?_)
  · replace h := h.1 c16
    refine gx_iload_n X (j := 2) dX6_plainField_14 rfl rfl ?_
    refine gx_if_eq X (tgt := 33) dX6_plainField_15 (by decide) (fun c15 => ?_) (fun c15 => ?_)
    · replace h := h.1 c15
      refine gx_aload_n X (j := 0) dX6_plainField_33 rfl rfl ?_
      refine gx_get X k1 rfl iwX6 2 (by decide) mw_106 (v := .ref (ex_ad E (gx_r u3 v0 2))) rfl dX6_plainField_34 ?_
      refine gx_iload_n X (j := 1) dX6_plainField_37 rfl rfl ?_
      refine gx_aload_n X (j := 0) dX6_plainField_38 rfl rfl ?_
      refine gx_get X k1 rfl iwX6 1 (by decide) mw_105 (v := .ref (ex_ad E (gx_r u3 v0 1))) rfl dX6_plainField_39 ?_
      obtain ⟨k5, h⟩ := h
      refine gx_kv (gx_rV X (c_X1_writeSimpleField h) (Nat.le_trans (by decide) hd) (Nat.le_trans (by decide) (Nat.mul_le_mul_left 40 hd)) k5 rfl mw_239 mw_240 mw_241 mw_3 mw_242 hyX1_writeSimpleField (As := [.int v1, .ref (ex_ad E (gx_r u3 v0 1))]) (rest := []) rfl rfl (Nat.le_of_ble_eq_true rfl) dX6_plainField_42) (fun u6 h => ?_)
      refine gx_aload_n X (j := 0) dX6_plainField_45 rfl rfl ?_
      refine gx_get X k1 rfl iwX6 1 (by decide) mw_105 (v := .ref (ex_ad E (gx_r u6 v0 1))) rfl dX6_plainField_46 ?_
      obtain ⟨k7, h⟩ := h
      refine gx_ki (gx_rV X (c_X0_size h) (Nat.le_trans (by decide) hd) (Nat.le_trans (by decide) (Nat.mul_le_mul_left 40 hd)) k7 rfl mw_127 mw_128 mw_129 mw_2 mw_130 hyX0_size (As := []) (rest := []) rfl rfl (Nat.le_of_ble_eq_true rfl) dX6_plainField_49) (fun r9 u8 h => ?_)
      exact gx_iret X hQ h dX6_plainField_52
    · replace h := h.2 c15
      refine gx_aload_n X (j := 0) dX6_plainField_18 rfl rfl ?_
      refine gx_get X k1 rfl iwX6 2 (by decide) mw_106 (v := .ref (ex_ad E (gx_r u3 v0 2))) rfl dX6_plainField_19 ?_
      refine gx_iload_n X (j := 1) dX6_plainField_22 rfl rfl ?_
      refine gx_aload_n X (j := 0) dX6_plainField_23 rfl rfl ?_
      refine gx_get X k1 rfl iwX6 1 (by decide) mw_105 (v := .ref (ex_ad E (gx_r u3 v0 1))) rfl dX6_plainField_24 ?_
      obtain ⟨k10, h⟩ := h
      refine gx_kv (gx_rV X (c_X1_writeRelaxedField h) (Nat.le_trans (by decide) hd) (Nat.le_trans (by decide) (Nat.mul_le_mul_left 40 hd)) k10 rfl mw_227 mw_228 mw_229 mw_3 mw_230 hyX1_writeRelaxedField (As := [.int v1, .ref (ex_ad E (gx_r u3 v0 1))]) (rest := []) rfl rfl (Nat.le_of_ble_eq_true rfl) dX6_plainField_27) (fun u11 h => ?_)
      refine gx_goto X (tgt := 45) dX6_plainField_30 (by decide) ?_
      refine gx_aload_n X (j := 0) dX6_plainField_45 rfl rfl ?_
      refine gx_get X k1 rfl iwX6 1 (by decide) mw_105 (v := .ref (ex_ad E (gx_r u11 v0 1))) rfl dX6_plainField_46 ?_
      obtain ⟨k12, h⟩ := h
      refine gx_ki (gx_rV X (c_X0_size h) (Nat.le_trans (by decide) hd) (Nat.le_trans (by decide) (Nat.mul_le_mul_left 40 hd)) k12 rfl mw_127 mw_128 mw_129 mw_2 mw_130 hyX0_size (As := []) (rest := []) rfl rfl (Nat.le_of_ble_eq_true rfl) dX6_plainField_49) (fun r14 u13 h => ?_)
      exact gx_iret X hQ h dX6_plainField_52
  · replace h := h.2 c16
    refine gx_bipush X (v := -2) dX6_plainField_11 (by decide) ?_
    exact gx_iret X hQ h dX6_plainField_13
theorem c_X6_plainField {l : Launch} {Z : gx_Z} {u : gx_S} {v0 : Nat} {v1 : Int32} {v2 : Int32} {post : Int32 → gx_S → Prop} (h : S_X6_plainField u v0 v1 v2 post) : Met l yX6_plainField (Cond.code yX6_plainField cX6_plainField 3 (some .int) :: gx_TB) (gx_rm 4) (gx_Pre Z u [.ref (Z.2.1 v0), .int v1, .int v2]) (va_Qi post (gx_B Z) (gx_A Z)) 0 0 (gx_A Z) := by
  refine gx_met (by decide +kernel) (Nat.le_of_ble_eq_true rfl) ?_
  intro E X hZ hQ hD hL
  subst hZ
  exact w_X6_plainField X (Nat.le_of_eq hD.symm) hQ h
-- PlainSeal.named()I
theorem dX6_named_0 : decode cX6_named 0 = .ok (.aload_n 0, 1) := by decide +kernel
theorem dX6_named_1 : decode cX6_named 1 = .ok (.getfield 22, 3) := by decide +kernel
theorem dX6_named_4 : decode cX6_named 4 = .ok (.invokevirtual 65, 3) := by decide +kernel
theorem dX6_named_7 : decode cX6_named 7 = .ok (.ifCond .eq 8, 3) := by decide +kernel
theorem dX6_named_10 : decode cX6_named 10 = .ok (.bipush (-2), 2) := by decide +kernel
theorem dX6_named_12 : decode cX6_named 12 = .ok (.goto 14, 3) := by decide +kernel
theorem dX6_named_15 : decode cX6_named 15 = .ok (.aload_n 0, 1) := by decide +kernel
theorem dX6_named_16 : decode cX6_named 16 = .ok (.getfield 22, 3) := by decide +kernel
theorem dX6_named_19 : decode cX6_named 19 = .ok (.aload_n 0, 1) := by decide +kernel
theorem dX6_named_20 : decode cX6_named 20 = .ok (.getfield 10, 3) := by decide +kernel
theorem dX6_named_23 : decode cX6_named 23 = .ok (.invokevirtual 84, 3) := by decide +kernel
theorem dX6_named_26 : decode cX6_named 26 = .ok (.istore_n 1, 1) := by decide +kernel
theorem dX6_named_27 : decode cX6_named 27 = .ok (.aload_n 0, 1) := by decide +kernel
theorem dX6_named_28 : decode cX6_named 28 = .ok (.getfield 10, 3) := by decide +kernel
theorem dX6_named_31 : decode cX6_named 31 = .ok (.invokevirtual 62, 3) := by decide +kernel
theorem dX6_named_34 : decode cX6_named 34 = .ok (.iload_n 1, 1) := by decide +kernel
theorem dX6_named_35 : decode cX6_named 35 = .ok (.ireturn, 1) := by decide +kernel
theorem hyX6_named : yX6_named.cls ≠ "java/lang/invoke/MethodHandle" ∧ yX6_named.cls ≠ "java/lang/invoke/VarHandle" ∧ (parseMethodDescriptor yX6_named.desc).map (fun d => d.parameters.length) = some 0 := by decide +kernel
def S_X6_named (u : gx_S) (v0 : Nat) (post : Int32 → gx_S → Prop) : Prop := (gx_isO v0 5 ∧ (gx_isO (gx_r u v0 2) 1 ∧ S_X1_isMissing u (gx_r u v0 2) (fun (r4 : Int32) (u3 : gx_S) => ((r4 = 0 → (gx_isO (gx_r u3 v0 2) 1 ∧ S_X1_countNamed u3 (gx_r u3 v0 2) (gx_r u3 v0 0) (fun (r7 : Int32) (u6 : gx_S) => (gx_isO (gx_r u6 v0 0) 0 ∧ S_X0_clear u6 (gx_r u6 v0 0) (fun (u9 : gx_S) => post r7 u9))))) ∧ (¬ r4 = 0 → (gx_isO (gx_r u3 v0 0) 0 ∧ S_X0_clear u3 (gx_r u3 v0 0) (fun (u11 : gx_S) => post (-2 : Int32) u11)))))))
set_option maxHeartbeats 4000000 in
set_option maxRecDepth 100000 in
theorem w_X6_named {E : gx_E} (X : gx_X E cX6_named 2 RX6 (some .int)) (hd : 5 ≤ ex_d E) {post : Int32 → gx_S → Prop} (hQ : ex_Q E = va_Qi post (gx_B (ex_Z E)) (gx_A (ex_Z E))) {u : gx_S} {v0 : Nat} (h : S_X6_named u v0 post) : gx_Wc E 2 0 [(0, .ref (ex_ad E v0))] [] u := by
  unfold S_X6_named at h
  refine gx_aload_n X (j := 0) dX6_named_0 rfl rfl ?_
  obtain ⟨k1, h⟩ := h
  refine gx_get X k1 rfl iwX6 2 (by decide) mw_106 (v := .ref (ex_ad E (gx_r u v0 2))) rfl dX6_named_1 ?_
  obtain ⟨k2, h⟩ := h
  refine gx_ki (gx_rV X (c_X1_isMissing h) (Nat.le_trans (by decide) hd) (Nat.le_trans (by decide) (Nat.mul_le_mul_left 40 hd)) k2 rfl mw_205 mw_206 mw_207 mw_3 mw_208 hyX1_isMissing (As := []) (rest := []) rfl rfl (Nat.le_of_ble_eq_true rfl) dX6_named_4) (fun r4 u3 h => ?_)
  refine gx_if_eq X (tgt := 15) dX6_named_7 (by decide) (fun c12 => ?_) (fun c12 => ?_)
  · replace h := h.1 c12
    refine gx_aload_n X (j := 0) dX6_named_15 rfl rfl ?_
    refine gx_get X k1 rfl iwX6 2 (by decide) mw_106 (v := .ref (ex_ad E (gx_r u3 v0 2))) rfl dX6_named_16 ?_
    refine gx_aload_n X (j := 0) dX6_named_19 rfl rfl ?_
    refine gx_get X k1 rfl iwX6 0 (by decide) mw_104 (v := .ref (ex_ad E (gx_r u3 v0 0))) rfl dX6_named_20 ?_
    obtain ⟨k5, h⟩ := h
    refine gx_ki (gx_rV X (c_X1_countNamed h) (Nat.le_trans (by decide) hd) (Nat.le_trans (by decide) (Nat.mul_le_mul_left 40 hd)) k5 rfl mw_248 mw_249 mw_250 mw_3 mw_251 hyX1_countNamed (As := [.ref (ex_ad E (gx_r u3 v0 0))]) (rest := []) rfl rfl (Nat.le_of_ble_eq_true rfl) dX6_named_23) (fun r7 u6 h => ?_)
    refine gx_istore_n X (lv' := [(1, .int r7), (0, .ref (ex_ad E v0))]) dX6_named_26 rfl (by decide) rfl ?_
    refine gx_aload_n X (j := 1) dX6_named_27 rfl rfl ?_
    refine gx_get X k1 rfl iwX6 0 (by decide) mw_104 (v := .ref (ex_ad E (gx_r u6 v0 0))) rfl dX6_named_28 ?_
    obtain ⟨k8, h⟩ := h
    refine gx_kv (gx_rV X (c_X0_clear h) (Nat.le_trans (by decide) hd) (Nat.le_trans (by decide) (Nat.mul_le_mul_left 40 hd)) k8 rfl mw_200 mw_192 mw_193 mw_2 mw_194 hyX0_clear (As := []) (rest := []) rfl rfl (Nat.le_of_ble_eq_true rfl) dX6_named_31) (fun u9 h => ?_)
    refine gx_iload_n X (j := 0) dX6_named_34 rfl rfl ?_
    exact gx_iret X hQ h dX6_named_35
  · replace h := h.2 c12
    refine gx_bipush X (v := -2) dX6_named_10 (by decide) ?_
    refine gx_goto X (tgt := 26) dX6_named_12 (by decide) ?_
    refine gx_istore_n X (lv' := [(1, .int (-2 : Int32)), (0, .ref (ex_ad E v0))]) dX6_named_26 rfl (by decide) rfl ?_
    refine gx_aload_n X (j := 1) dX6_named_27 rfl rfl ?_
    refine gx_get X k1 rfl iwX6 0 (by decide) mw_104 (v := .ref (ex_ad E (gx_r u3 v0 0))) rfl dX6_named_28 ?_
    obtain ⟨k10, h⟩ := h
    refine gx_kv (gx_rV X (c_X0_clear h) (Nat.le_trans (by decide) hd) (Nat.le_trans (by decide) (Nat.mul_le_mul_left 40 hd)) k10 rfl mw_200 mw_192 mw_193 mw_2 mw_194 hyX0_clear (As := []) (rest := []) rfl rfl (Nat.le_of_ble_eq_true rfl) dX6_named_31) (fun u11 h => ?_)
    refine gx_iload_n X (j := 0) dX6_named_34 rfl rfl ?_
    exact gx_iret X hQ h dX6_named_35
theorem c_X6_named {l : Launch} {Z : gx_Z} {u : gx_S} {v0 : Nat} {post : Int32 → gx_S → Prop} (h : S_X6_named u v0 post) : Met l yX6_named (Cond.code yX6_named cX6_named 2 (some .int) :: gx_TB) (gx_rm 5) (gx_Pre Z u [.ref (Z.2.1 v0)]) (va_Qi post (gx_B Z) (gx_A Z)) 0 0 (gx_A Z) := by
  refine gx_met (by decide +kernel) (Nat.le_of_ble_eq_true rfl) ?_
  intro E X hZ hQ hD hL
  subst hZ
  exact w_X6_named X (Nat.le_of_eq hD.symm) hQ h
-- PlainSeal.tags()I
theorem dX6_tags_0 : decode cX6_tags 0 = .ok (.aload_n 0, 1) := by decide +kernel
theorem dX6_tags_1 : decode cX6_tags 1 = .ok (.getfield 29, 3) := by decide +kernel
theorem dX6_tags_4 : decode cX6_tags 4 = .ok (.aload_n 0, 1) := by decide +kernel
theorem dX6_tags_5 : decode cX6_tags 5 = .ok (.getfield 10, 3) := by decide +kernel
theorem dX6_tags_8 : decode cX6_tags 8 = .ok (.invokevirtual 87, 3) := by decide +kernel
theorem dX6_tags_11 : decode cX6_tags 11 = .ok (.istore_n 1, 1) := by decide +kernel
theorem dX6_tags_12 : decode cX6_tags 12 = .ok (.aload_n 0, 1) := by decide +kernel
theorem dX6_tags_13 : decode cX6_tags 13 = .ok (.getfield 10, 3) := by decide +kernel
theorem dX6_tags_16 : decode cX6_tags 16 = .ok (.invokevirtual 62, 3) := by decide +kernel
theorem dX6_tags_19 : decode cX6_tags 19 = .ok (.iload_n 1, 1) := by decide +kernel
theorem dX6_tags_20 : decode cX6_tags 20 = .ok (.ireturn, 1) := by decide +kernel
theorem hyX6_tags : yX6_tags.cls ≠ "java/lang/invoke/MethodHandle" ∧ yX6_tags.cls ≠ "java/lang/invoke/VarHandle" ∧ (parseMethodDescriptor yX6_tags.desc).map (fun d => d.parameters.length) = some 0 := by decide +kernel
def S_X6_tags (u : gx_S) (v0 : Nat) (post : Int32 → gx_S → Prop) : Prop := (gx_isO v0 5 ∧ (gx_isO (gx_r u v0 3) 4 ∧ S_X5_read u (gx_r u v0 3) (gx_r u v0 0) (fun (r4 : Int32) (u3 : gx_S) => (gx_isO (gx_r u3 v0 0) 0 ∧ S_X0_clear u3 (gx_r u3 v0 0) (fun (u6 : gx_S) => post r4 u6)))))
set_option maxHeartbeats 4000000 in
set_option maxRecDepth 100000 in
theorem w_X6_tags {E : gx_E} (X : gx_X E cX6_tags 2 RX6 (some .int)) (hd : 5 ≤ ex_d E) {post : Int32 → gx_S → Prop} (hQ : ex_Q E = va_Qi post (gx_B (ex_Z E)) (gx_A (ex_Z E))) {u : gx_S} {v0 : Nat} (h : S_X6_tags u v0 post) : gx_Wc E 2 0 [(0, .ref (ex_ad E v0))] [] u := by
  unfold S_X6_tags at h
  refine gx_aload_n X (j := 0) dX6_tags_0 rfl rfl ?_
  obtain ⟨k1, h⟩ := h
  refine gx_get X k1 rfl iwX6 3 (by decide) mw_107 (v := .ref (ex_ad E (gx_r u v0 3))) rfl dX6_tags_1 ?_
  refine gx_aload_n X (j := 0) dX6_tags_4 rfl rfl ?_
  refine gx_get X k1 rfl iwX6 0 (by decide) mw_104 (v := .ref (ex_ad E (gx_r u v0 0))) rfl dX6_tags_5 ?_
  obtain ⟨k2, h⟩ := h
  refine gx_ki (gx_rV X (c_X5_read h) (Nat.le_trans (by decide) hd) (Nat.le_trans (by decide) (Nat.mul_le_mul_left 40 hd)) k2 rfl mw_260 mw_261 mw_262 mw_4 mw_263 hyX5_read (As := [.ref (ex_ad E (gx_r u v0 0))]) (rest := []) rfl rfl (Nat.le_of_ble_eq_true rfl) dX6_tags_8) (fun r4 u3 h => ?_)
  refine gx_istore_n X (lv' := [(1, .int r4), (0, .ref (ex_ad E v0))]) dX6_tags_11 rfl (by decide) rfl ?_
  refine gx_aload_n X (j := 1) dX6_tags_12 rfl rfl ?_
  refine gx_get X k1 rfl iwX6 0 (by decide) mw_104 (v := .ref (ex_ad E (gx_r u3 v0 0))) rfl dX6_tags_13 ?_
  obtain ⟨k5, h⟩ := h
  refine gx_kv (gx_rV X (c_X0_clear h) (Nat.le_trans (by decide) hd) (Nat.le_trans (by decide) (Nat.mul_le_mul_left 40 hd)) k5 rfl mw_200 mw_192 mw_193 mw_2 mw_194 hyX0_clear (As := []) (rest := []) rfl rfl (Nat.le_of_ble_eq_true rfl) dX6_tags_16) (fun u6 h => ?_)
  refine gx_iload_n X (j := 0) dX6_tags_19 rfl rfl ?_
  exact gx_iret X hQ h dX6_tags_20
theorem c_X6_tags {l : Launch} {Z : gx_Z} {u : gx_S} {v0 : Nat} {post : Int32 → gx_S → Prop} (h : S_X6_tags u v0 post) : Met l yX6_tags (Cond.code yX6_tags cX6_tags 2 (some .int) :: gx_TB) (gx_rm 5) (gx_Pre Z u [.ref (Z.2.1 v0)]) (va_Qi post (gx_B Z) (gx_A Z)) 0 0 (gx_A Z) := by
  refine gx_met (by decide +kernel) (Nat.le_of_ble_eq_true rfl) ?_
  intro E X hZ hQ hD hL
  subst hZ
  exact w_X6_tags X (Nat.le_of_eq hD.symm) hQ h
-- PlainSeal.tag()I
theorem dX6_tag_0 : decode cX6_tag 0 = .ok (.aload_n 0, 1) := by decide +kernel
theorem dX6_tag_1 : decode cX6_tag 1 = .ok (.getfield 29, 3) := by decide +kernel
theorem dX6_tag_4 : decode cX6_tag 4 = .ok (.aload_n 0, 1) := by decide +kernel
theorem dX6_tag_5 : decode cX6_tag 5 = .ok (.getfield 10, 3) := by decide +kernel
theorem dX6_tag_8 : decode cX6_tag 8 = .ok (.aload_n 0, 1) := by decide +kernel
theorem dX6_tag_9 : decode cX6_tag 9 = .ok (.getfield 16, 3) := by decide +kernel
theorem dX6_tag_12 : decode cX6_tag 12 = .ok (.invokevirtual 88, 3) := by decide +kernel
theorem dX6_tag_15 : decode cX6_tag 15 = .ok (.istore_n 1, 1) := by decide +kernel
theorem dX6_tag_16 : decode cX6_tag 16 = .ok (.aload_n 0, 1) := by decide +kernel
theorem dX6_tag_17 : decode cX6_tag 17 = .ok (.getfield 10, 3) := by decide +kernel
theorem dX6_tag_20 : decode cX6_tag 20 = .ok (.invokevirtual 62, 3) := by decide +kernel
theorem dX6_tag_23 : decode cX6_tag 23 = .ok (.iload_n 1, 1) := by decide +kernel
theorem dX6_tag_24 : decode cX6_tag 24 = .ok (.ireturn, 1) := by decide +kernel
theorem hyX6_tag : yX6_tag.cls ≠ "java/lang/invoke/MethodHandle" ∧ yX6_tag.cls ≠ "java/lang/invoke/VarHandle" ∧ (parseMethodDescriptor yX6_tag.desc).map (fun d => d.parameters.length) = some 0 := by decide +kernel
def S_X6_tag (u : gx_S) (v0 : Nat) (post : Int32 → gx_S → Prop) : Prop := (gx_isO v0 5 ∧ (gx_isO (gx_r u v0 3) 4 ∧ S_X5_writeValue u (gx_r u v0 3) (gx_r u v0 0) (gx_r u v0 1) (fun (r4 : Int32) (u3 : gx_S) => (gx_isO (gx_r u3 v0 0) 0 ∧ S_X0_clear u3 (gx_r u3 v0 0) (fun (u6 : gx_S) => post r4 u6)))))
set_option maxHeartbeats 4000000 in
set_option maxRecDepth 100000 in
theorem w_X6_tag {E : gx_E} (X : gx_X E cX6_tag 2 RX6 (some .int)) (hd : 4 ≤ ex_d E) {post : Int32 → gx_S → Prop} (hQ : ex_Q E = va_Qi post (gx_B (ex_Z E)) (gx_A (ex_Z E))) {u : gx_S} {v0 : Nat} (h : S_X6_tag u v0 post) : gx_Wc E 2 0 [(0, .ref (ex_ad E v0))] [] u := by
  unfold S_X6_tag at h
  refine gx_aload_n X (j := 0) dX6_tag_0 rfl rfl ?_
  obtain ⟨k1, h⟩ := h
  refine gx_get X k1 rfl iwX6 3 (by decide) mw_107 (v := .ref (ex_ad E (gx_r u v0 3))) rfl dX6_tag_1 ?_
  refine gx_aload_n X (j := 0) dX6_tag_4 rfl rfl ?_
  refine gx_get X k1 rfl iwX6 0 (by decide) mw_104 (v := .ref (ex_ad E (gx_r u v0 0))) rfl dX6_tag_5 ?_
  refine gx_aload_n X (j := 0) dX6_tag_8 rfl rfl ?_
  refine gx_get X k1 rfl iwX6 1 (by decide) mw_105 (v := .ref (ex_ad E (gx_r u v0 1))) rfl dX6_tag_9 ?_
  obtain ⟨k2, h⟩ := h
  refine gx_ki (gx_rV X (c_X5_writeValue h) (Nat.le_trans (by decide) hd) (Nat.le_trans (by decide) (Nat.mul_le_mul_left 40 hd)) k2 rfl mw_294 mw_295 mw_296 mw_4 mw_297 hyX5_writeValue (As := [.ref (ex_ad E (gx_r u v0 0)), .ref (ex_ad E (gx_r u v0 1))]) (rest := []) rfl rfl (Nat.le_of_ble_eq_true rfl) dX6_tag_12) (fun r4 u3 h => ?_)
  refine gx_istore_n X (lv' := [(1, .int r4), (0, .ref (ex_ad E v0))]) dX6_tag_15 rfl (by decide) rfl ?_
  refine gx_aload_n X (j := 1) dX6_tag_16 rfl rfl ?_
  refine gx_get X k1 rfl iwX6 0 (by decide) mw_104 (v := .ref (ex_ad E (gx_r u3 v0 0))) rfl dX6_tag_17 ?_
  obtain ⟨k5, h⟩ := h
  refine gx_kv (gx_rV X (c_X0_clear h) (Nat.le_trans (by decide) hd) (Nat.le_trans (by decide) (Nat.mul_le_mul_left 40 hd)) k5 rfl mw_200 mw_192 mw_193 mw_2 mw_194 hyX0_clear (As := []) (rest := []) rfl rfl (Nat.le_of_ble_eq_true rfl) dX6_tag_20) (fun u6 h => ?_)
  refine gx_iload_n X (j := 0) dX6_tag_23 rfl rfl ?_
  exact gx_iret X hQ h dX6_tag_24
theorem c_X6_tag {l : Launch} {Z : gx_Z} {u : gx_S} {v0 : Nat} {post : Int32 → gx_S → Prop} (h : S_X6_tag u v0 post) : Met l yX6_tag (Cond.code yX6_tag cX6_tag 2 (some .int) :: gx_TB) (gx_rm 4) (gx_Pre Z u [.ref (Z.2.1 v0)]) (va_Qi post (gx_B Z) (gx_A Z)) 0 0 (gx_A Z) := by
  refine gx_met (by decide +kernel) (Nat.le_of_ble_eq_true rfl) ?_
  intro E X hZ hQ hD hL
  subst hZ
  exact w_X6_tag X (Nat.le_of_eq hD.symm) hQ h
-- PlainSeal.decode(I)I
theorem dX6_decode_0 : decode cX6_decode 0 = .ok (.iload_n 1, 1) := by decide +kernel
theorem dX6_decode_1 : decode cX6_decode 1 = .ok (.ifCond .lt 10, 3) := by decide +kernel
theorem dX6_decode_4 : decode cX6_decode 4 = .ok (.iload_n 1, 1) := by decide +kernel
theorem dX6_decode_5 : decode cX6_decode 5 = .ok (.sipush 900, 3) := by decide +kernel
theorem dX6_decode_8 : decode cX6_decode 8 = .ok (.if_icmp .le 5, 3) := by decide +kernel
theorem dX6_decode_11 : decode cX6_decode 11 = .ok (.iconst (-1), 1) := by decide +kernel
theorem dX6_decode_12 : decode cX6_decode 12 = .ok (.ireturn, 1) := by decide +kernel
theorem dX6_decode_13 : decode cX6_decode 13 = .ok (.bipush (-2), 2) := by decide +kernel
theorem dX6_decode_15 : decode cX6_decode 15 = .ok (.istore_n 2, 1) := by decide +kernel
theorem dX6_decode_16 : decode cX6_decode 16 = .ok (.iload_n 1, 1) := by decide +kernel
theorem dX6_decode_17 : decode cX6_decode 17 = .ok (.aload_n 0, 1) := by decide +kernel
theorem dX6_decode_18 : decode cX6_decode 18 = .ok (.getfield 10, 3) := by decide +kernel
theorem dX6_decode_21 : decode cX6_decode 21 = .ok (.invokestatic 94, 3) := by decide +kernel
theorem dX6_decode_24 : decode cX6_decode 24 = .ok (.ifCond .eq 17, 3) := by decide +kernel
theorem dX6_decode_27 : decode cX6_decode 27 = .ok (.iload_n 1, 1) := by decide +kernel
theorem dX6_decode_28 : decode cX6_decode 28 = .ok (.aload_n 0, 1) := by decide +kernel
theorem dX6_decode_29 : decode cX6_decode 29 = .ok (.getfield 10, 3) := by decide +kernel
theorem dX6_decode_32 : decode cX6_decode 32 = .ok (.aload_n 0, 1) := by decide +kernel
theorem dX6_decode_33 : decode cX6_decode 33 = .ok (.getfield 16, 3) := by decide +kernel
theorem dX6_decode_36 : decode cX6_decode 36 = .ok (.invokestatic 98, 3) := by decide +kernel
theorem dX6_decode_39 : decode cX6_decode 39 = .ok (.iload_n 1, 1) := by decide +kernel
theorem dX6_decode_40 : decode cX6_decode 40 = .ok (.istore_n 2, 1) := by decide +kernel
theorem dX6_decode_41 : decode cX6_decode 41 = .ok (.aload_n 0, 1) := by decide +kernel
theorem dX6_decode_42 : decode cX6_decode 42 = .ok (.getfield 10, 3) := by decide +kernel
theorem dX6_decode_45 : decode cX6_decode 45 = .ok (.invokevirtual 62, 3) := by decide +kernel
theorem dX6_decode_48 : decode cX6_decode 48 = .ok (.iload_n 2, 1) := by decide +kernel
theorem dX6_decode_49 : decode cX6_decode 49 = .ok (.ireturn, 1) := by decide +kernel
theorem hyX6_decode : yX6_decode.cls ≠ "java/lang/invoke/MethodHandle" ∧ yX6_decode.cls ≠ "java/lang/invoke/VarHandle" ∧ (parseMethodDescriptor yX6_decode.desc).map (fun d => d.parameters.length) = some 1 := by decide +kernel
def S_X6_decode (u : gx_S) (v0 : Nat) (v1 : Int32) (post : Int32 → gx_S → Prop) : Prop := ((v1 < 0 → post (-1 : Int32) u) ∧ (¬ v1 < 0 → ((v1 ≤ (900 : Int32) → (gx_isO v0 5 ∧ (S_X4_areOf u v1 (gx_r u v0 0) (fun (r3 : Int32) (u2 : gx_S) => ((r3 = 0 → (gx_isO (gx_r u2 v0 0) 0 ∧ S_X0_clear u2 (gx_r u2 v0 0) (fun (u5 : gx_S) => post (-2 : Int32) u5))) ∧ (¬ r3 = 0 → (S_X4_write u2 v1 (gx_r u2 v0 0) (gx_r u2 v0 1) (fun (u6 : gx_S) => (gx_isO (gx_r u6 v0 0) 0 ∧ S_X0_clear u6 (gx_r u6 v0 0) (fun (u8 : gx_S) => post v1 u8)))))))))) ∧ (¬ v1 ≤ (900 : Int32) → post (-1 : Int32) u))))
set_option maxHeartbeats 4000000 in
set_option maxRecDepth 100000 in
theorem w_X6_decode {E : gx_E} (X : gx_X E cX6_decode 3 RX6 (some .int)) (hd : 3 ≤ ex_d E) {post : Int32 → gx_S → Prop} (hQ : ex_Q E = va_Qi post (gx_B (ex_Z E)) (gx_A (ex_Z E))) {u : gx_S} {v0 : Nat} {v1 : Int32} (h : S_X6_decode u v0 v1 post) : gx_Wc E 3 0 [(0, .ref (ex_ad E v0)), (1, .int v1)] [] u := by
  unfold S_X6_decode at h
  refine gx_iload_n X (j := 1) dX6_decode_0 rfl rfl ?_
  refine gx_if_lt X (tgt := 11) dX6_decode_1 (by decide) (fun c11 => ?_) (fun c11 => ?_)
  · replace h := h.1 c11
    refine gx_iconst X (v := -1) dX6_decode_11 (by decide) ?_
    exact gx_iret X hQ h dX6_decode_12
  · replace h := h.2 c11
    refine gx_iload_n X (j := 1) dX6_decode_4 rfl rfl ?_
    refine gx_sipush X (v := 900) dX6_decode_5 (by decide) ?_
    refine gx_icmp_le X (tgt := 13) dX6_decode_8 (by decide) (fun c10 => ?_) (fun c10 => ?_)
    · replace h := h.1 c10
      refine gx_bipush X (v := -2) dX6_decode_13 (by decide) ?_
      refine gx_istore_n X (lv' := [(2, .int (-2 : Int32)), (0, .ref (ex_ad E v0)), (1, .int v1)]) dX6_decode_15 rfl (by decide) rfl ?_
      refine gx_iload_n X (j := 2) dX6_decode_16 rfl rfl ?_
      refine gx_aload_n X (j := 1) dX6_decode_17 rfl rfl ?_
      obtain ⟨k1, h⟩ := h
      refine gx_get X k1 rfl iwX6 0 (by decide) mw_104 (v := .ref (ex_ad E (gx_r u v0 0))) rfl dX6_decode_18 ?_
      refine gx_ki (gx_rS X (c_X4_areOf h) (Nat.le_trans (by decide) hd) (Nat.le_trans (by decide) (Nat.mul_le_mul_left 40 hd)) mw_304 mw_305 mw_13 mw_306 hyX4_areOf (As := [.int v1, .ref (ex_ad E (gx_r u v0 0))]) (rest := []) rfl rfl (Nat.le_of_ble_eq_true rfl) dX6_decode_21) (fun r3 u2 h => ?_)
      refine gx_if_eq X (tgt := 41) dX6_decode_24 (by decide) (fun c9 => ?_) (fun c9 => ?_)
      · replace h := h.1 c9
        refine gx_aload_n X (j := 1) dX6_decode_41 rfl rfl ?_
        refine gx_get X k1 rfl iwX6 0 (by decide) mw_104 (v := .ref (ex_ad E (gx_r u2 v0 0))) rfl dX6_decode_42 ?_
        obtain ⟨k4, h⟩ := h
        refine gx_kv (gx_rV X (c_X0_clear h) (Nat.le_trans (by decide) hd) (Nat.le_trans (by decide) (Nat.mul_le_mul_left 40 hd)) k4 rfl mw_200 mw_192 mw_193 mw_2 mw_194 hyX0_clear (As := []) (rest := []) rfl rfl (Nat.le_of_ble_eq_true rfl) dX6_decode_45) (fun u5 h => ?_)
        refine gx_iload_n X (j := 0) dX6_decode_48 rfl rfl ?_
        exact gx_iret X hQ h dX6_decode_49
      · replace h := h.2 c9
        refine gx_iload_n X (j := 2) dX6_decode_27 rfl rfl ?_
        refine gx_aload_n X (j := 1) dX6_decode_28 rfl rfl ?_
        refine gx_get X k1 rfl iwX6 0 (by decide) mw_104 (v := .ref (ex_ad E (gx_r u2 v0 0))) rfl dX6_decode_29 ?_
        refine gx_aload_n X (j := 1) dX6_decode_32 rfl rfl ?_
        refine gx_get X k1 rfl iwX6 1 (by decide) mw_105 (v := .ref (ex_ad E (gx_r u2 v0 1))) rfl dX6_decode_33 ?_
        refine gx_kv (gx_rS X (c_X4_write h) (Nat.le_trans (by decide) hd) (Nat.le_trans (by decide) (Nat.mul_le_mul_left 40 hd)) mw_321 mw_322 mw_13 mw_323 hyX4_write (As := [.int v1, .ref (ex_ad E (gx_r u2 v0 0)), .ref (ex_ad E (gx_r u2 v0 1))]) (rest := []) rfl rfl (Nat.le_of_ble_eq_true rfl) dX6_decode_36) (fun u6 h => ?_)
        refine gx_iload_n X (j := 2) dX6_decode_39 rfl rfl ?_
        refine gx_istore_n X (lv' := [(2, .int v1), (0, .ref (ex_ad E v0)), (1, .int v1)]) dX6_decode_40 rfl (by decide) rfl ?_
        refine gx_aload_n X (j := 1) dX6_decode_41 rfl rfl ?_
        refine gx_get X k1 rfl iwX6 0 (by decide) mw_104 (v := .ref (ex_ad E (gx_r u6 v0 0))) rfl dX6_decode_42 ?_
        obtain ⟨k7, h⟩ := h
        refine gx_kv (gx_rV X (c_X0_clear h) (Nat.le_trans (by decide) hd) (Nat.le_trans (by decide) (Nat.mul_le_mul_left 40 hd)) k7 rfl mw_200 mw_192 mw_193 mw_2 mw_194 hyX0_clear (As := []) (rest := []) rfl rfl (Nat.le_of_ble_eq_true rfl) dX6_decode_45) (fun u8 h => ?_)
        refine gx_iload_n X (j := 0) dX6_decode_48 rfl rfl ?_
        exact gx_iret X hQ h dX6_decode_49
    · replace h := h.2 c10
      refine gx_iconst X (v := -1) dX6_decode_11 (by decide) ?_
      exact gx_iret X hQ h dX6_decode_12
theorem c_X6_decode {l : Launch} {Z : gx_Z} {u : gx_S} {v0 : Nat} {v1 : Int32} {post : Int32 → gx_S → Prop} (h : S_X6_decode u v0 v1 post) : Met l yX6_decode (Cond.code yX6_decode cX6_decode 3 (some .int) :: gx_TB) (gx_rm 3) (gx_Pre Z u [.ref (Z.2.1 v0), .int v1]) (va_Qi post (gx_B Z) (gx_A Z)) 0 0 (gx_A Z) := by
  refine gx_met (by decide +kernel) (Nat.le_of_ble_eq_true rfl) ?_
  intro E X hZ hQ hD hL
  subst hZ
  exact w_X6_decode X (Nat.le_of_eq hD.symm) hQ h
-- PlainSeal.digest()I
theorem dX6_digest_0 : decode cX6_digest 0 = .ok (.aload_n 0, 1) := by decide +kernel
theorem dX6_digest_1 : decode cX6_digest 1 = .ok (.getfield 36, 3) := by decide +kernel
theorem dX6_digest_4 : decode cX6_digest 4 = .ok (.aload_n 0, 1) := by decide +kernel
theorem dX6_digest_5 : decode cX6_digest 5 = .ok (.getfield 10, 3) := by decide +kernel
theorem dX6_digest_8 : decode cX6_digest 8 = .ok (.aload_n 0, 1) := by decide +kernel
theorem dX6_digest_9 : decode cX6_digest 9 = .ok (.getfield 16, 3) := by decide +kernel
theorem dX6_digest_12 : decode cX6_digest 12 = .ok (.invokevirtual 102, 3) := by decide +kernel
theorem dX6_digest_15 : decode cX6_digest 15 = .ok (.aload_n 0, 1) := by decide +kernel
theorem dX6_digest_16 : decode cX6_digest 16 = .ok (.getfield 10, 3) := by decide +kernel
theorem dX6_digest_19 : decode cX6_digest 19 = .ok (.invokevirtual 62, 3) := by decide +kernel
theorem dX6_digest_22 : decode cX6_digest 22 = .ok (.aload_n 0, 1) := by decide +kernel
theorem dX6_digest_23 : decode cX6_digest 23 = .ok (.getfield 16, 3) := by decide +kernel
theorem dX6_digest_26 : decode cX6_digest 26 = .ok (.invokevirtual 47, 3) := by decide +kernel
theorem dX6_digest_29 : decode cX6_digest 29 = .ok (.ireturn, 1) := by decide +kernel
theorem hyX6_digest : yX6_digest.cls ≠ "java/lang/invoke/MethodHandle" ∧ yX6_digest.cls ≠ "java/lang/invoke/VarHandle" ∧ (parseMethodDescriptor yX6_digest.desc).map (fun d => d.parameters.length) = some 0 := by decide +kernel
def S_X6_digest (u : gx_S) (v0 : Nat) (post : Int32 → gx_S → Prop) : Prop := (gx_isO v0 5 ∧ (gx_isO (gx_r u v0 4) 3 ∧ S_X3_write u (gx_r u v0 4) (gx_r u v0 0) (gx_r u v0 1) (fun (u3 : gx_S) => (gx_isO (gx_r u3 v0 0) 0 ∧ S_X0_clear u3 (gx_r u3 v0 0) (fun (u5 : gx_S) => (gx_isO (gx_r u5 v0 1) 0 ∧ S_X0_size u5 (gx_r u5 v0 1) (fun (r8 : Int32) (u7 : gx_S) => post r8 u7)))))))
set_option maxHeartbeats 4000000 in
set_option maxRecDepth 100000 in
theorem w_X6_digest {E : gx_E} (X : gx_X E cX6_digest 1 RX6 (some .int)) (hd : 5 ≤ ex_d E) {post : Int32 → gx_S → Prop} (hQ : ex_Q E = va_Qi post (gx_B (ex_Z E)) (gx_A (ex_Z E))) {u : gx_S} {v0 : Nat} (h : S_X6_digest u v0 post) : gx_Wc E 1 0 [(0, .ref (ex_ad E v0))] [] u := by
  unfold S_X6_digest at h
  refine gx_aload_n X (j := 0) dX6_digest_0 rfl rfl ?_
  obtain ⟨k1, h⟩ := h
  refine gx_get X k1 rfl iwX6 4 (by decide) mw_108 (v := .ref (ex_ad E (gx_r u v0 4))) rfl dX6_digest_1 ?_
  refine gx_aload_n X (j := 0) dX6_digest_4 rfl rfl ?_
  refine gx_get X k1 rfl iwX6 0 (by decide) mw_104 (v := .ref (ex_ad E (gx_r u v0 0))) rfl dX6_digest_5 ?_
  refine gx_aload_n X (j := 0) dX6_digest_8 rfl rfl ?_
  refine gx_get X k1 rfl iwX6 1 (by decide) mw_105 (v := .ref (ex_ad E (gx_r u v0 1))) rfl dX6_digest_9 ?_
  obtain ⟨k2, h⟩ := h
  refine gx_kv (gx_rV X (c_X3_write h) (Nat.le_trans (by decide) hd) (Nat.le_trans (by decide) (Nat.mul_le_mul_left 40 hd)) k2 rfl mw_330 mw_331 mw_332 mw_5 mw_333 hyX3_write (As := [.ref (ex_ad E (gx_r u v0 0)), .ref (ex_ad E (gx_r u v0 1))]) (rest := []) rfl rfl (Nat.le_of_ble_eq_true rfl) dX6_digest_12) (fun u3 h => ?_)
  refine gx_aload_n X (j := 0) dX6_digest_15 rfl rfl ?_
  refine gx_get X k1 rfl iwX6 0 (by decide) mw_104 (v := .ref (ex_ad E (gx_r u3 v0 0))) rfl dX6_digest_16 ?_
  obtain ⟨k4, h⟩ := h
  refine gx_kv (gx_rV X (c_X0_clear h) (Nat.le_trans (by decide) hd) (Nat.le_trans (by decide) (Nat.mul_le_mul_left 40 hd)) k4 rfl mw_200 mw_192 mw_193 mw_2 mw_194 hyX0_clear (As := []) (rest := []) rfl rfl (Nat.le_of_ble_eq_true rfl) dX6_digest_19) (fun u5 h => ?_)
  refine gx_aload_n X (j := 0) dX6_digest_22 rfl rfl ?_
  refine gx_get X k1 rfl iwX6 1 (by decide) mw_105 (v := .ref (ex_ad E (gx_r u5 v0 1))) rfl dX6_digest_23 ?_
  obtain ⟨k6, h⟩ := h
  refine gx_ki (gx_rV X (c_X0_size h) (Nat.le_trans (by decide) hd) (Nat.le_trans (by decide) (Nat.mul_le_mul_left 40 hd)) k6 rfl mw_127 mw_128 mw_129 mw_2 mw_130 hyX0_size (As := []) (rest := []) rfl rfl (Nat.le_of_ble_eq_true rfl) dX6_digest_26) (fun r8 u7 h => ?_)
  exact gx_iret X hQ h dX6_digest_29
theorem c_X6_digest {l : Launch} {Z : gx_Z} {u : gx_S} {v0 : Nat} {post : Int32 → gx_S → Prop} (h : S_X6_digest u v0 post) : Met l yX6_digest (Cond.code yX6_digest cX6_digest 1 (some .int) :: gx_TB) (gx_rm 5) (gx_Pre Z u [.ref (Z.2.1 v0)]) (va_Qi post (gx_B Z) (gx_A Z)) 0 0 (gx_A Z) := by
  refine gx_met (by decide +kernel) (Nat.le_of_ble_eq_true rfl) ?_
  intro E X hZ hQ hD hL
  subst hZ
  exact w_X6_digest X (Nat.le_of_eq hD.symm) hQ h
-- PlainSeal.octet(I)I
theorem dX6_octet_0 : decode cX6_octet 0 = .ok (.iload_n 1, 1) := by decide +kernel
theorem dX6_octet_1 : decode cX6_octet 1 = .ok (.iconst (-1), 1) := by decide +kernel
theorem dX6_octet_2 : decode cX6_octet 2 = .ok (.if_icmp .ne 13, 3) := by decide +kernel
theorem dX6_octet_5 : decode cX6_octet 5 = .ok (.aload_n 0, 1) := by decide +kernel
theorem dX6_octet_6 : decode cX6_octet 6 = .ok (.getfield 16, 3) := by decide +kernel
theorem dX6_octet_9 : decode cX6_octet 9 = .ok (.invokevirtual 47, 3) := by decide +kernel
theorem dX6_octet_12 : decode cX6_octet 12 = .ok (.goto 11, 3) := by decide +kernel
theorem dX6_octet_15 : decode cX6_octet 15 = .ok (.aload_n 0, 1) := by decide +kernel
theorem dX6_octet_16 : decode cX6_octet 16 = .ok (.getfield 16, 3) := by decide +kernel
theorem dX6_octet_19 : decode cX6_octet 19 = .ok (.iload_n 1, 1) := by decide +kernel
theorem dX6_octet_20 : decode cX6_octet 20 = .ok (.invokevirtual 118, 3) := by decide +kernel
theorem dX6_octet_23 : decode cX6_octet 23 = .ok (.ireturn, 1) := by decide +kernel
theorem hyX6_octet : yX6_octet.cls ≠ "java/lang/invoke/MethodHandle" ∧ yX6_octet.cls ≠ "java/lang/invoke/VarHandle" ∧ (parseMethodDescriptor yX6_octet.desc).map (fun d => d.parameters.length) = some 1 := by decide +kernel
def S_X6_octet (u : gx_S) (v0 : Nat) (v1 : Int32) (post : Int32 → gx_S → Prop) : Prop := ((¬ v1 = (-1 : Int32) → (gx_isO v0 5 ∧ (gx_isO (gx_r u v0 1) 0 ∧ S_X0_at u (gx_r u v0 1) v1 (fun (r4 : Int32) (u3 : gx_S) => post r4 u3)))) ∧ (v1 = (-1 : Int32) → (gx_isO v0 5 ∧ (gx_isO (gx_r u v0 1) 0 ∧ S_X0_size u (gx_r u v0 1) (fun (r8 : Int32) (u7 : gx_S) => post r8 u7)))))
set_option maxHeartbeats 4000000 in
set_option maxRecDepth 100000 in
theorem w_X6_octet {E : gx_E} (X : gx_X E cX6_octet 2 RX6 (some .int)) (hd : 1 ≤ ex_d E) {post : Int32 → gx_S → Prop} (hQ : ex_Q E = va_Qi post (gx_B (ex_Z E)) (gx_A (ex_Z E))) {u : gx_S} {v0 : Nat} {v1 : Int32} (h : S_X6_octet u v0 v1 post) : gx_Wc E 2 0 [(0, .ref (ex_ad E v0)), (1, .int v1)] [] u := by
  unfold S_X6_octet at h
  refine gx_iload_n X (j := 1) dX6_octet_0 rfl rfl ?_
  refine gx_iconst X (v := -1) dX6_octet_1 (by decide) ?_
  refine gx_icmp_ne X (tgt := 15) dX6_octet_2 (by decide) (fun c9 => ?_) (fun c9 => ?_)
  · replace h := h.1 c9
    refine gx_aload_n X (j := 0) dX6_octet_15 rfl rfl ?_
    obtain ⟨k1, h⟩ := h
    refine gx_get X k1 rfl iwX6 1 (by decide) mw_105 (v := .ref (ex_ad E (gx_r u v0 1))) rfl dX6_octet_16 ?_
    refine gx_iload_n X (j := 1) dX6_octet_19 rfl rfl ?_
    obtain ⟨k2, h⟩ := h
    refine gx_ki (gx_rV X (c_X0_at h) (Nat.le_trans (by decide) hd) (Nat.le_trans (by decide) (Nat.mul_le_mul_left 40 hd)) k2 rfl mw_426 mw_163 mw_164 mw_2 mw_165 hyX0_at (As := [.int v1]) (rest := []) rfl rfl (Nat.le_of_ble_eq_true rfl) dX6_octet_20) (fun r4 u3 h => ?_)
    exact gx_iret X hQ h dX6_octet_23
  · replace h := h.2 c9
    refine gx_aload_n X (j := 0) dX6_octet_5 rfl rfl ?_
    obtain ⟨k5, h⟩ := h
    refine gx_get X k5 rfl iwX6 1 (by decide) mw_105 (v := .ref (ex_ad E (gx_r u v0 1))) rfl dX6_octet_6 ?_
    obtain ⟨k6, h⟩ := h
    refine gx_ki (gx_rV X (c_X0_size h) (Nat.le_trans (by decide) hd) (Nat.le_trans (by decide) (Nat.mul_le_mul_left 40 hd)) k6 rfl mw_127 mw_128 mw_129 mw_2 mw_130 hyX0_size (As := []) (rest := []) rfl rfl (Nat.le_of_ble_eq_true rfl) dX6_octet_9) (fun r8 u7 h => ?_)
    refine gx_goto X (tgt := 23) dX6_octet_12 (by decide) ?_
    exact gx_iret X hQ h dX6_octet_23
theorem c_X6_octet {l : Launch} {Z : gx_Z} {u : gx_S} {v0 : Nat} {v1 : Int32} {post : Int32 → gx_S → Prop} (h : S_X6_octet u v0 v1 post) : Met l yX6_octet (Cond.code yX6_octet cX6_octet 2 (some .int) :: gx_TB) (gx_rm 1) (gx_Pre Z u [.ref (Z.2.1 v0), .int v1]) (va_Qi post (gx_B Z) (gx_A Z)) 0 0 (gx_A Z) := by
  refine gx_met (by decide +kernel) (Nat.le_of_ble_eq_true rfl) ?_
  intro E X hZ hQ hD hL
  subst hZ
  exact w_X6_octet X (Nat.le_of_eq hD.symm) hQ h
/-- nothing but the class's own cells is new -/
def exC (u v : gx_S) : Prop := (∀ o k, 9 ≤ o → gx_i v o k = gx_i u o k) ∧ v.2.1 = u.2.1 ∧ v.2.2.1 = u.2.2.1 ∧ ∀ a, 21 ≤ a → gx_a v a = gx_a u a
theorem exC_rf (u : gx_S) : exC u u := ⟨fun _ _ _ => rfl, rfl, rfl, fun _ _ => rfl⟩
theorem exC_tr {u v w : gx_S} (h : exC u v) (h2 : exC v w) : exC u w := ⟨fun o k ho => (h2.1 o k ho).trans (h.1 o k ho), h2.2.1.trans h.2.1, h2.2.2.1.trans h.2.2.1, fun a ha => (h2.2.2.2 a ha).trans (h.2.2.2 a ha)⟩
theorem exC_byW {u : gx_S} {o n : Nat} {f : Nat → Int32} (ho : o < 9) (hr : gx_r u o 0 < 21) : exC u (byW u o f n) :=
  ⟨fun p k hp => by rw [byW_i, if_neg (by omega)], rfl, rfl, fun a ha => by rw [byW_a, if_neg (by omega)]⟩
theorem exC_pi {u : gx_S} {o k : Nat} {x : Int32} (ho : o < 9) : exC u (gx_pi u o k x) := ⟨fun p q hp => by rw [gx_i_pi, if_neg (by omega)], rfl, rfl, fun _ _ => rfl⟩
theorem exC_pa {u : gx_S} {a : Nat} {f : Nat → Int32} (ha : a < 21) : exC u (gx_pa u a f) := ⟨fun _ _ _ => rfl, rfl, rfl, fun b hb => by rw [gx_a_pa, if_neg (by omega)]⟩
theorem exC_exA {u v : gx_S} {A : List Nat} (h : exA A u v) (hA : ∀ a ∈ A, a < 21) : exC u v := ⟨fun o k _ => exA_i h o k, h.2.1, h.2.2.1, fun a ha => h.2.2.2 a (fun e => by have := hA a e; omega)⟩
/-- what the class's cells say: the tape T, the out O, the message M of k fields, the tags G -/
def cS (u : gx_S) (T O M : List Nat) (k : Nat) (G : List Nat) : Prop := cfix u ∧ byL u 1 T ∧ byL u 2 O ∧ mlL u M k ∧ byL u 6 G
theorem mlL_W {u : gx_S} {M : List Nat} {k o n : Nat} {f : Nat → Int32} (hf : cfix u) (h : mlL u M k) (ho : o ≠ 4 ∧ o ≠ 3) (hr : gx_r u o 0 ≠ 11 ∧ gx_r u o 0 ≠ 13) : mlL (byW u o f n) M k := by
  obtain ⟨m1, m2, m3, m4⟩ := h
  refine ⟨byL_ne m1 (fun e => ho.1 e.symm) (by rw [hf 4 0 (by decide)]; exact fun e => hr.1 e.symm), ?_, m3, fun j hj => ?_⟩
  · rw [byW_i, if_neg (fun e => ho.2 e.1.symm)]; exact m2
  · rw [byW_a, if_neg (fun e => hr.2 e.symm)]; exact m4 j hj
theorem cS_t {u : gx_S} {T O M G T' : List Nat} {k : Nat} {f : Nat → Int32} (h : cS u T O M k G) (hf : rdb T' f) (hl : T'.length ≤ 2000) : cS (byW u 1 f T'.length) T' O M k G ∧ exC u (byW u 1 f T'.length) := by
  obtain ⟨c0, c1, c2, c3, c4⟩ := h
  have r1 : gx_r u 1 0 = 9 := c0 1 0 (by decide)
  exact ⟨⟨fun o k h => c0 o k h, byL_W c1 hf hl, byL_ne c2 (by decide) (by rw [r1, c0 2 0 (by decide)]; decide), mlL_W c0 c3 (by decide) (by rw [r1]; decide), byL_ne c4 (by decide) (by rw [r1, c0 6 0 (by decide)]; decide)⟩, exC_byW (by decide) (by rw [r1]; decide)⟩
theorem cS_o {u : gx_S} {T O M G T' : List Nat} {k : Nat} {f : Nat → Int32} (h : cS u T O M k G) (hf : rdb T' f) (hl : T'.length ≤ 2000) : cS (byW u 2 f T'.length) T T' M k G ∧ exC u (byW u 2 f T'.length) := by
  obtain ⟨c0, c1, c2, c3, c4⟩ := h
  have r1 : gx_r u 2 0 = 10 := c0 2 0 (by decide)
  exact ⟨⟨fun o k h => c0 o k h, byL_ne c1 (by decide) (by rw [r1, c0 1 0 (by decide)]; decide), byL_W c2 hf hl, mlL_W c0 c3 (by decide) (by rw [r1]; decide), byL_ne c4 (by decide) (by rw [r1, c0 6 0 (by decide)]; decide)⟩, exC_byW (by decide) (by rw [r1]; decide)⟩
theorem cS_g {u : gx_S} {T O M G T' : List Nat} {k : Nat} {f : Nat → Int32} (h : cS u T O M k G) (hf : rdb T' f) (hl : T'.length ≤ 2000) : cS (byW u 6 f T'.length) T O M k T' ∧ exC u (byW u 6 f T'.length) := by
  obtain ⟨c0, c1, c2, c3, c4⟩ := h
  have r1 : gx_r u 6 0 = 12 := c0 6 0 (by decide)
  exact ⟨⟨fun o k h => c0 o k h, byL_ne c1 (by decide) (by rw [r1, c0 1 0 (by decide)]; decide), byL_ne c2 (by decide) (by rw [r1, c0 2 0 (by decide)]; decide), mlL_W c0 c3 (by decide) (by rw [r1]; decide), byL_W c4 hf hl⟩, exC_byW (by decide) (by rw [r1]; decide)⟩
theorem cS_m {u : gx_S} {T O M G M' : List Nat} {k k' : Nat} {f g : Nat → Int32} (h : cS u T O M k G) (hf : rdb M' f) (hl : M'.length ≤ 2000) (hk : k' ≤ 20) (hg : ∀ j, j ≤ k' → g j = nI (plc M' j)) : cS (gx_pa (gx_pi (byW u 4 f M'.length) 3 2 (nI k')) 13 g) T O M' k' G ∧ exC u (gx_pa (gx_pi (byW u 4 f M'.length) 3 2 (nI k')) 13 g) := by
  obtain ⟨c0, c1, c2, c3, c4⟩ := h
  have r1 : gx_r u 4 0 = 11 := c0 4 0 (by decide)
  have cl : ∀ {o L}, byL u o L → o < 9 → o ≠ 4 → o ≠ 3 → gx_r u o 0 ≠ 11 → gx_r u o 0 ≠ 13 → byL (gx_pa (gx_pi (byW u 4 f M'.length) 3 2 (nI k')) 13 g) o L := by
    intro o L hB _ h4 h3 hr hr2
    exact byL_pa (byL_pi (byL_ne hB h4 (by rw [r1]; exact hr)) (fun e => h3 e.1)) hr2
  refine ⟨⟨fun o k h => c0 o k h, cl c1 (by decide) (by decide) (by decide) (by rw [c0 1 0 (by decide)]; decide) (by rw [c0 1 0 (by decide)]; decide), cl c2 (by decide) (by decide) (by decide) (by rw [c0 2 0 (by decide)]; decide) (by rw [c0 2 0 (by decide)]; decide), ⟨?_, ?_, hk, fun j hj => ?_⟩, cl c4 (by decide) (by decide) (by decide) (by rw [c0 6 0 (by decide)]; decide) (by rw [c0 6 0 (by decide)]; decide)⟩, exC_tr (exC_byW (by decide) (by rw [r1]; decide)) (exC_tr (exC_pi (by decide)) (exC_pa (by decide)))⟩
  · exact byL_pa (byL_pi (byL_W c3.1 hf hl) (by decide)) (by show gx_r u 4 0 ≠ 13; rw [r1]; decide)
  · rw [gx_i_pa, gx_i_pi, if_pos ⟨rfl, rfl⟩]
  · rw [gx_a_pa, if_pos rfl]; exact hg j hj
theorem cS_x {u v : gx_S} {T O M G : List Nat} {k : Nat} {A : List Nat} (h : cS u T O M k G) (hx : exA A u v) (hA : ∀ a ∈ A, 14 ≤ a ∧ a < 21) : cS v T O M k G ∧ exC u v := by
  obtain ⟨c0, c1, c2, c3, c4⟩ := h
  have nin : ∀ b, b < 14 → b ∉ A := fun b hb e => by have := hA b e; omega
  refine ⟨⟨exA_cfix hx c0, exA_byL hx c1 (nin _ (by rw [c0 1 0 (by decide)]; decide)), exA_byL hx c2 (nin _ (by rw [c0 2 0 (by decide)]; decide)), ⟨exA_byL hx c3.1 (nin _ (by rw [c0 4 0 (by decide)]; decide)), by rw [exA_i hx]; exact c3.2.1, c3.2.2.1, fun j hj => by rw [hx.2.2.2 13 (nin 13 (by decide))]; exact c3.2.2.2 j hj⟩, exA_byL hx c4 (nin _ (by rw [c0 6 0 (by decide)]; decide))⟩, exC_exA hx (fun a ha => (hA a ha).2)⟩
-- the calls
def fdB (a b c d e : Int32) : List Nat := wB a ++ (wB b ++ (wB c ++ (wB d ++ wB e)))
theorem t_feed {u : gx_S} {T O M G : List Nat} {k : Nat} {a b c d e : Int32} {post : Int32 → gx_S → Prop} (h : cS u T O M k G) (h1 : T.length + 20 ≤ 2000 → ∀ v, exC u v → cS v (T ++ fdB a b c d e) O M k G → post (nI (T.length + 20)) v) (h2 : ¬ T.length + 20 ≤ 2000 → post (-3) u) : S_X6_feed u 0 a b c d e post := by
  have c0 := h.1
  have hT := h.2.1
  have hT2 := hT.2.2.2.2.1
  have r0 : ∀ {v : gx_S}, cfix v → gx_r v 0 0 = 1 := fun hv => hv 0 0 (by decide)
  unfold S_X6_feed
  rw [r0 c0]
  refine ⟨isO_x 0 5 (by decide), hT.1, i_X0_size hT ?_⟩
  rw [show (20 : Int32) = nI 20 from rfl, show (2000 : Int32) = nI 2000 from rfl, nI_add, nI_leI (by omega) (by omega)]
  refine ⟨fun q => ?_, fun q => h2 q⟩
  rw [r0 c0]
  refine ⟨hT.1, i_X0_addWord hT (by omega) (fun f1 g1 => ?_)⟩
  have s1 := cS_t h g1 (by simp [wB]; omega)
  rw [r0 s1.1.1]
  refine ⟨hT.1, i_X0_addWord s1.1.2.1 (by simp [wB]; omega) (fun f2 g2 => ?_)⟩
  have s2 := cS_t s1.1 g2 (by simp [wB]; omega)
  rw [r0 s2.1.1]
  refine ⟨hT.1, i_X0_addWord s2.1.2.1 (by simp [wB]; omega) (fun f3 g3 => ?_)⟩
  have s3 := cS_t s2.1 g3 (by simp [wB]; omega)
  rw [r0 s3.1.1]
  refine ⟨hT.1, i_X0_addWord s3.1.2.1 (by simp [wB]; omega) (fun f4 g4 => ?_)⟩
  have s4 := cS_t s3.1 g4 (by simp [wB]; omega)
  rw [r0 s4.1.1]
  refine ⟨hT.1, i_X0_addWord s4.1.2.1 (by simp [wB]; omega) (fun f5 g5 => ?_)⟩
  have s5 := cS_t s4.1 g5 (by simp [wB]; omega)
  rw [r0 s5.1.1]
  refine ⟨hT.1, i_X0_size s5.1.2.1 ?_⟩
  have ee : T ++ wB a ++ wB b ++ wB c ++ wB d ++ wB e = T ++ fdB a b c d e := by simp [fdB]
  rw [show (T ++ wB a ++ wB b ++ wB c ++ wB d ++ wB e).length = T.length + 20 by simp [wB]]
  refine h1 q _ (exC_tr s1.2 (exC_tr s2.2 (exC_tr s3.2 (exC_tr s4.2 ?_)))) ?_
  · have := s5.2
    rwa [show (T ++ wB a ++ wB b ++ wB c ++ wB d ++ wB e).length = T.length + 20 by simp [wB]] at this
  · have := s5.1
    rwa [show (T ++ wB a ++ wB b ++ wB c ++ wB d ++ wB e).length = T.length + 20 by simp [wB], ee] at this
theorem t_end {u : gx_S} {T O M G : List Nat} {k : Nat} {x : Int32} {post : Int32 → gx_S → Prop} (h : cS u T O M k G) (h1 : ∀ n, n ≤ T.length → x = nI n → ∀ v, exC u v → cS v (T.take n) O M k G → post x v) (h2 : (x < 0 ∨ nI T.length < x) → post (-1) u) : S_X6_end u 0 x post := by
  have c0 := h.1
  have hT := h.2.1
  have hT2 := hT.2.2.2.2.1
  refine ⟨fun q => h2 (Or.inl q), fun q => ?_⟩
  rw [c0 0 0 (by decide)]
  refine ⟨isO_x 0 5 (by decide), hT.1, i_X0_size hT ⟨fun q2 => ?_, fun q2 => ?_⟩⟩
  · obtain ⟨n, hn, rfl⟩ := nI_of2 (nI_toInt (by omega)) q q2
    rw [c0 0 0 (by decide)]
    refine ⟨hT.1, i_X0_cutTo hT (by omega) (fun f hf => ?_)⟩
    have s := cS_t h hf (by rw [List.length_take]; omega)
    exact h1 n hn rfl _ s.2 s.1
  · exact h2 (Or.inr (Int32.not_le.mp q2))
theorem t_clear {u : gx_S} {T O M G : List Nat} {k : Nat} {post : gx_S → Prop} (h : cS u T O M k G) (h1 : ∀ v, exC u v → cS v [] O M k G → post v) : S_X0_clear u 1 post := by
  refine i_X0_clear h.2.1 (fun f hf => ?_)
  have s := cS_t h hf (by simp)
  exact h1 _ s.2 s.1
theorem t_message {u : gx_S} {T O M G : List Nat} {k : Nat} {post : Int32 → gx_S → Prop} (h : cS u T O M k G) (h1 : cnt T ≠ 0 → ∀ v, exC u v → cS v [] O T (cnt T) G → post (nI (cnt T)) v) (h2 : cnt T = 0 → ∀ v, exC u v → cS v [] O M k G → post (-1) v) : S_X6_message u 0 post := by
  have c0 := h.1
  have hT := h.2.1
  unfold S_X6_message
  rw [show gx_r u 0 2 = 3 from c0 0 2 (by decide), show gx_r u 0 0 = 1 from c0 0 0 (by decide)]
  refine ⟨isO_x 0 5 (by decide), isO_x 3 1 (by decide), rfl, rfl, c0, T, M, hT, h.2.2.2.1.1, h.2.2.2.1.2.2.2 0 (by omega), fun q => ?_, fun q f g hf hg => ?_⟩
  · try dsimp only
    rw [show gx_r u 0 0 = 1 from c0 0 0 (by decide)]
    exact ⟨hT.1, t_clear h (fun v hv hs => h2 q v hv hs)⟩
  · try dsimp only
    have s := cS_m h hf hT.2.2.2.2.1 (cnt_le T) hg
    rw [show gx_r (gx_pa (gx_pi (byW u 4 f T.length) 3 2 (nI (cnt T))) 13 g) 0 0 = 1 from s.1.1 0 0 (by decide)]
    exact ⟨hT.1, t_clear s.1 (fun v hv hs => h1 q v (exC_tr s.2 hv) hs)⟩
theorem t_plainBody {u : gx_S} {T O M G : List Nat} {k : Nat} {rel : Bool} {post : Int32 → gx_S → Prop} (h : cS u T O M k G) (hl : (bodyO M rel (plc M k + 1)).length ≤ 2000) (h1 : k ≠ 0 → ∀ v, exC u v → cS v T (bodyO M rel (plc M k + 1)) M k G → post (nI (bodyO M rel (plc M k + 1)).length) v) (h2 : k = 0 → post (-2) u) : S_X6_plainBody u 0 (b2 rel) post := by
  have c0 := h.1
  have m := h.2.2.2.1
  have hk := m.2.2.1
  unfold S_X6_plainBody
  rw [show gx_r u 0 2 = 3 from c0 0 2 (by decide)]
  refine ⟨isO_x 0 5 (by decide), isO_x 3 1 (by decide), isO_x 3 1 (by decide), ⟨fun q => ?_, fun q => ?_⟩⟩
  · rw [m.2.1] at q
    have hk0 : k ≠ 0 := fun e => q (by rw [e]; rfl)
    refine ⟨fun _ => ?_, fun z => absurd z (by decide)⟩
    rw [show gx_r u 0 2 = 3 from c0 0 2 (by decide), show gx_r u 0 1 = 2 from c0 0 1 (by decide)]
    refine ⟨isO_x 3 1 (by decide), rfl, rfl, c0, M, O, k, rel, m, h.2.2.1, rfl, fun f hf => ?_⟩
    have s := cS_o h hf hl
    try dsimp only
    rw [show gx_r (byW u 2 f (bodyO M rel (plc M k + 1)).length) 0 1 = 2 from c0 0 1 (by decide)]
    exact ⟨h.2.2.1.1, i_X0_size s.1.2.2.1 (h1 hk0 _ s.2 s.1)⟩
  · rw [m.2.1] at q
    exact ⟨fun z => absurd z (by decide), fun _ => h2 ((nI_eq (b := 0) (by omega) (by omega)).mp q)⟩
theorem t_plainField {u : gx_S} {T O M G : List Nat} {k : Nat} {x : Int32} {rel : Bool} {post : Int32 → gx_S → Prop} (h : cS u T O M k G) (hp : ∀ j, j < k → 0 < plc M (j + 1)) (hl1 : ∀ j, j < k → (rfO M (plc M j) (plc M (j + 1))).length ≤ 2000) (h1 : ∀ j, j < k → x = nI j → ∀ v, exC u v → cS v T (if rel then rfO M (plc M j) (plc M (j + 1)) else sfO M (plc M j) (plc M (j + 1))) M k G → post (nI (if rel then rfO M (plc M j) (plc M (j + 1)) else sfO M (plc M j) (plc M (j + 1))).length) v) (h2 : (x < 0 ∨ nI k ≤ x) → post (-2) u) : S_X6_plainField u 0 x (b2 rel) post := by
  have c0 := h.1
  have m := h.2.2.2.1
  have hk := m.2.2.1
  have hM2 := m.1.2.2.2.2.1
  unfold S_X6_plainField
  rw [show gx_r u 0 2 = 3 from c0 0 2 (by decide)]
  refine ⟨isO_x 0 5 (by decide), isO_x 3 1 (by decide), ⟨fun q => ⟨fun z => absurd rfl z, fun _ => h2 (Or.inl q)⟩, fun q => ⟨isO_x 3 1 (by decide), ⟨fun q2 => ⟨fun z => absurd rfl z, fun _ => h2 (Or.inr (by rw [m.2.1] at q2; exact q2))⟩, fun q2 => ?_⟩⟩⟩⟩
  rw [m.2.1] at q2
  have q3 : x < nI k := Int32.not_le.mp q2
  obtain ⟨j, hj, rfl⟩ := nI_of2 (nI_toInt (n := k) (by omega)) q (Int32.le_of_lt q3)
  have hjk : j < k := (nI_ltI (by omega) (by omega)).mp q3
  have hout : ∀ {N : List Nat} {f : Nat → Int32}, rdb N f → N.length ≤ 2000 → (∀ v, exC u v → cS v T N M k G → post (nI N.length) v) → gx_isO (gx_r (byW u 2 f N.length) 0 1) 0 ∧ S_X0_size (byW u 2 f N.length) (gx_r (byW u 2 f N.length) 0 1) (fun r9 u8 => post r9 u8) := by
    intro N f hf hl hh
    have s := cS_o h hf hl
    rw [show gx_r (byW u 2 f N.length) 0 1 = 2 from c0 0 1 (by decide)]
    exact ⟨h.2.2.1.1, i_X0_size s.1.2.2.1 (hh _ s.2 s.1)⟩
  refine ⟨fun _ => ?_, fun z => absurd z (by decide)⟩
  rw [show gx_r u 0 2 = 3 from c0 0 2 (by decide), show gx_r u 0 1 = 2 from c0 0 1 (by decide)]
  refine ⟨fun z => ?_, fun z => ?_⟩
  · rw [b2_0] at z
    subst z
    refine ⟨isO_x 3 1 (by decide), i_X1_writeSimpleField c0 m hjk h.2.2.1 (hp j hjk) (fun f hf => hout hf ?_ (fun v hv hs => h1 j hjk rfl v hv hs))⟩
    have := plc_le M (j + 1)
    unfold sfO
    rw [List.length_take, List.length_drop]
    split <;> omega
  · have z2 := b2_n0 z
    subst z2
    exact ⟨isO_x 3 1 (by decide), rfl, rfl, c0, M, O, j, k, m, hjk, rfl, h.2.2.1, fun f hf => hout hf (hl1 j hjk) (fun v hv hs => h1 j hjk rfl v hv hs)⟩
theorem t_named {u : gx_S} {T O M G : List Nat} {k : Nat} {post : Int32 → gx_S → Prop} (h : cS u T O M k G) (h1 : k ≠ 0 → ∀ v, exC u v → cS v [] O M k G → post (nI (cnm M T k)) v) (h2 : k = 0 → ∀ v, exC u v → cS v [] O M k G → post (-2) v) : S_X6_named u 0 post := by
  have c0 := h.1
  have m := h.2.2.2.1
  have hk := m.2.2.1
  unfold S_X6_named
  rw [show gx_r u 0 2 = 3 from c0 0 2 (by decide)]
  refine ⟨isO_x 0 5 (by decide), isO_x 3 1 (by decide), isO_x 3 1 (by decide), ⟨fun q => ?_, fun q => ?_⟩⟩
  · rw [m.2.1] at q
    have hk0 : k ≠ 0 := fun e => q (by rw [e]; rfl)
    refine ⟨fun _ => ?_, fun z => absurd z (by decide)⟩
    rw [show gx_r u 0 2 = 3 from c0 0 2 (by decide), show gx_r u 0 0 = 1 from c0 0 0 (by decide)]
    refine ⟨isO_x 3 1 (by decide), rfl, c0, M, T, k, m, h.2.1, ?_⟩
    try dsimp only
    rw [show gx_r u 0 0 = 1 from c0 0 0 (by decide)]
    exact ⟨h.2.1.1, t_clear h (fun v hv hs => h1 hk0 v hv hs)⟩
  · rw [m.2.1] at q
    refine ⟨fun z => absurd z (by decide), fun _ => ?_⟩
    rw [show gx_r u 0 0 = 1 from c0 0 0 (by decide)]
    exact ⟨h.2.1.1, t_clear h (fun v hv hs => h2 ((nI_eq (b := 0) (by omega) (by omega)).mp q) v hv hs)⟩
theorem bareT_le (T : List Nat) : (bareT T).length ≤ T.length := by
  have := List.length_filter_le bare T
  unfold bareT
  split
  · rw [List.length_take]; omega
  · exact this
theorem t_tags {u : gx_S} {T O M G : List Nat} {k : Nat} {post : Int32 → gx_S → Prop} (h : cS u T O M k G) (h1 : ct (bareT T) ≠ 0 → ∀ v, exC u v → cS v [] O M k (bareT T) → post (nI (ct (bareT T))) v) (h2 : ct (bareT T) = 0 → ∀ v, exC u v → cS v [] O M k G → post (-1) v) : S_X6_tags u 0 post := by
  have c0 := h.1
  have hT2 := h.2.1.2.2.2.2.1
  have hb := bareT_le T
  unfold S_X6_tags
  rw [show gx_r u 0 3 = 5 from c0 0 3 (by decide), show gx_r u 0 0 = 1 from c0 0 0 (by decide)]
  refine ⟨isO_x 0 5 (by decide), isO_x 5 4 (by decide), i_X5_read c0 h.2.1 h.2.2.2.2 (fun f hf => ?_)⟩
  have s := cS_t h hf (by omega)
  refine ⟨fun q => ?_, fun q g hg => ?_⟩
  · rw [show gx_r (byW u 1 f (bareT T).length) 0 0 = 1 from c0 0 0 (by decide)]
    exact ⟨h.2.1.1, t_clear s.1 (fun v hv hs => h2 q v (exC_tr s.2 hv) hs)⟩
  · have s2 := cS_g s.1 hg (by omega)
    try dsimp only
    rw [show gx_r (byW (byW u 1 f (bareT T).length) 6 g (bareT T).length) 0 0 = 1 from c0 0 0 (by decide)]
    exact ⟨h.2.1.1, t_clear s2.1 (fun v hv hs => h1 q v (exC_tr s.2 (exC_tr s2.2 hv)) hs)⟩
theorem t_tag {u : gx_S} {T O M G : List Nat} {k : Nat} {post : Int32 → gx_S → Prop} (h : cS u T O M k G) (h1 : ∀ w, vo G G.length T 0 T.length = some w → ∀ v, exC u v → cS v [] (tvO G w) M k G → post (nI (tvO G w).length) v) (h2 : vo G G.length T 0 T.length = none → ∀ v, exC u v → cS v [] O M k G → post (-2) v) : S_X6_tag u 0 post := by
  have c0 := h.1
  have hG2 := h.2.2.2.2.2.2.2.2.1
  unfold S_X6_tag
  rw [show gx_r u 0 3 = 5 from c0 0 3 (by decide), show gx_r u 0 0 = 1 from c0 0 0 (by decide), show gx_r u 0 1 = 2 from c0 0 1 (by decide)]
  refine ⟨isO_x 0 5 (by decide), isO_x 5 4 (by decide), i_X5_writeValue c0 h.2.1 h.2.2.2.2 h.2.2.1 (fun q => ?_) (fun w q f hf => ?_)⟩
  · try dsimp only
    rw [show gx_r u 0 0 = 1 from c0 0 0 (by decide)]
    exact ⟨h.2.1.1, t_clear h (fun v hv hs => h2 q v hv hs)⟩
  · have hl : (tvO G w).length ≤ 2000 := by
      have := fnd_le G 59 w
      have := h.2.2.2.2.2.2.2.2.1
      unfold tvO
      rw [List.length_take, List.length_drop]; omega
    have s := cS_o h hf hl
    try dsimp only
    rw [show gx_r (byW u 2 f (tvO G w).length) 0 0 = 1 from c0 0 0 (by decide)]
    exact ⟨h.2.1.1, t_clear s.1 (fun v hv hs => h1 w q v (exC_tr s.2 hv) hs)⟩
theorem dcF_len (L : List Nat) : ∀ k i w b O, (dcF L k i w b O).length ≤ O.length + k
  | 0, _, _, _, O => by simp [dcF]
  | k + 1, i, w, b, O => by
    unfold dcF
    split
    · have := dcF_len L k (i + 1) (w + 6) (b * 64 + six (ch L i)) O; omega
    · have := dcF_len L k (i + 1) (w - 2) ((b * 64 + six (ch L i)) % 2 ^ (w - 2)) (O ++ [(b * 64 + six (ch L i)) / 2 ^ (w - 2)])
      rw [len_push] at this; omega
theorem t_decode {u : gx_S} {T O M G : List Nat} {k : Nat} {x : Int32} {post : Int32 → gx_S → Prop} (h : cS u T O M k G) (h1 : ∀ n, n ≤ 900 → x = nI n → aof n T = true → ∀ v, exC u v → cS v [] (dcF T (nlet n) 0 0 0 []) M k G → post x v) (h2 : ∀ n, n ≤ 900 → x = nI n → aof n T = false → ∀ v, exC u v → cS v [] O M k G → post (-2) v) (h3 : (x < 0 ∨ nI 900 < x) → post (-1) u) : S_X6_decode u 0 x post := by
  have c0 := h.1
  unfold S_X6_decode
  refine ⟨fun q => h3 (Or.inl q), fun q => ⟨fun q2 => ?_, fun q2 => h3 (Or.inr (Int32.not_le.mp q2))⟩⟩
  obtain ⟨n, hn, rfl⟩ := nI_of2 (M := 900) (n := 900) (by decide) q q2
  rw [show gx_r u 0 0 = 1 from c0 0 0 (by decide)]
  refine ⟨isO_x 0 5 (by decide), T, n, hn, rfl, h.2.1, ⟨fun z => ?_, fun z => ?_⟩⟩
  · rw [b2_0] at z
    rw [show gx_r u 0 0 = 1 from c0 0 0 (by decide)]
    exact ⟨h.2.1.1, t_clear h (fun v hv hs => h2 n hn rfl z v hv hs)⟩
  · have z2 := b2_n0 z
    have hs : sxF T (nlet n) 0 = true := by
      unfold aof at z2
      split at z2
      · split at z2
        · assumption
        · cases z2
      · cases z2
    rw [show gx_r u 0 0 = 1 from c0 0 0 (by decide), show gx_r u 0 1 = 2 from c0 0 1 (by decide)]
    refine ⟨T, O, n, hn, rfl, h.2.1, h.2.2.1, by decide, by rw [c0 1 0 (by decide), c0 2 0 (by decide)]; decide, hs, fun f hf => ?_⟩
    have hl : (dcF T (nlet n) 0 0 0 []).length ≤ 2000 := by
      have := dcF_len T (nlet n) 0 0 0 []
      have h5 : nlet n ≤ 1300 := by unfold nlet; omega
      simp at this; omega
    have s := cS_o h hf hl
    try dsimp only
    rw [show gx_r (byW u 2 f (dcF T (nlet n) 0 0 0 []).length) 0 0 = 1 from c0 0 0 (by decide)]
    exact ⟨h.2.1.1, t_clear s.1 (fun v hv hs2 => h1 n hn rfl z2 v (exC_tr s.2 hv) hs2)⟩
theorem t_digest {u : gx_S} {T O M G : List Nat} {k : Nat} {post : Int32 → gx_S → Prop} (h : cS u T O M k G) (h1 : ∀ v, exC u v → cS v [] (dig (gx_a u 60) (gx_a u 61) T) M k G → post 32 v) : S_X6_digest u 0 post := by
  have c0 := h.1
  unfold S_X6_digest
  rw [show gx_r u 0 4 = 7 from c0 0 4 (by decide), show gx_r u 0 0 = 1 from c0 0 0 (by decide), show gx_r u 0 1 = 2 from c0 0 1 (by decide)]
  refine ⟨isO_x 0 5 (by decide), isO_x 7 3 (by decide), rfl, rfl, rfl, c0, T, O, h.2.1, h.2.2.1, fun u' hx f hf => ?_⟩
  have s0 := cS_x h hx (by decide)
  have hl : (dig (gx_a u 60) (gx_a u 61) T).length = 32 := dgB_len _ 8
  have s := cS_o s0.1 hf (by omega)
  try dsimp only
  rw [show gx_r (byW u' 2 f (dig (gx_a u 60) (gx_a u 61) T).length) 0 0 = 1 from s0.1.1 0 0 (by decide)]
  refine ⟨h.2.1.1, t_clear s.1 (fun v hv hs => ?_)⟩
  rw [show gx_r v 0 1 = 2 from hs.1 0 1 (by decide)]
  refine ⟨h.2.2.1.1, i_X0_size hs.2.2.1 ?_⟩
  rw [hl]
  exact h1 v (exC_tr s0.2 (exC_tr s.2 hv)) hs
theorem t_octet {u : gx_S} {T O M G : List Nat} {k : Nat} {x : Int32} {post : Int32 → gx_S → Prop} (h : cS u T O M k G) (h1 : x = -1 → post (nI O.length) u) (h2 : ∀ j, x = nI j → j < 2 ^ 31 → post (cI (ch O j)) u) (h3 : x < 0 → x ≠ -1 → post (-2) u) : S_X6_octet u 0 x post := by
  have c0 := h.1
  unfold S_X6_octet
  rw [show gx_r u 0 1 = 2 from c0 0 1 (by decide)]
  refine ⟨fun q => ⟨isO_x 0 5 (by decide), h.2.2.1.1, ?_⟩, fun q => ⟨isO_x 0 5 (by decide), h.2.2.1.1, i_X0_size h.2.2.1 (h1 q)⟩⟩
  by_cases hx : x < 0
  · exact i_X0_at_neg hx (h3 hx q)
  · obtain ⟨j, hj, rfl⟩ := nI_of hx
    exact i_X0_at h.2.2.1 hj (h2 j rfl hj)

-- PlainSealModel.in(JJJ)Z
theorem dX10_in_0 : decode cX10_in 0 = .ok (.lload_n 0, 1) := by decide +kernel
theorem dX10_in_1 : decode cX10_in 1 = .ok (.lload_n 2, 1) := by decide +kernel
theorem dX10_in_2 : decode cX10_in 2 = .ok (.lcmp, 1) := by decide +kernel
theorem dX10_in_3 : decode cX10_in 3 = .ok (.ifCond .lt 14, 3) := by decide +kernel
theorem dX10_in_6 : decode cX10_in 6 = .ok (.lload_n 0, 1) := by decide +kernel
theorem dX10_in_7 : decode cX10_in 7 = .ok (.lload 4, 2) := by decide +kernel
theorem dX10_in_9 : decode cX10_in 9 = .ok (.lcmp, 1) := by decide +kernel
theorem dX10_in_10 : decode cX10_in 10 = .ok (.ifCond .gt 7, 3) := by decide +kernel
theorem dX10_in_13 : decode cX10_in 13 = .ok (.iconst 1, 1) := by decide +kernel
theorem dX10_in_14 : decode cX10_in 14 = .ok (.goto 4, 3) := by decide +kernel
theorem dX10_in_17 : decode cX10_in 17 = .ok (.iconst 0, 1) := by decide +kernel
theorem dX10_in_18 : decode cX10_in 18 = .ok (.ireturn, 1) := by decide +kernel
theorem hyX10_in : yX10_in.cls ≠ "java/lang/invoke/MethodHandle" ∧ yX10_in.cls ≠ "java/lang/invoke/VarHandle" ∧ (parseMethodDescriptor yX10_in.desc).map (fun d => d.parameters.length) = some 3 := by decide +kernel
def S_X10_in (u : gx_S) (v0 : Int64) (v2 : Int64) (v4 : Int64) (post : Int32 → gx_S → Prop) : Prop := (((lg_cmp v0 v2) < 0 → post (0 : Int32) u) ∧ (¬ (lg_cmp v0 v2) < 0 → ((0 < (lg_cmp v0 v4) → post (0 : Int32) u) ∧ (¬ 0 < (lg_cmp v0 v4) → post (1 : Int32) u))))
set_option maxHeartbeats 4000000 in
set_option maxRecDepth 100000 in
theorem w_X10_in {E : gx_E} (X : gx_X E cX10_in 6 RX10 (some .boolean)) (hd : 0 ≤ ex_d E) {post : Int32 → gx_S → Prop} (hQ : ex_Q E = va_Qi post (gx_B (ex_Z E)) (gx_A (ex_Z E))) {u : gx_S} {v0 : Int64} {v2 : Int64} {v4 : Int64} (h : S_X10_in u v0 v2 v4 post) : gx_Wc E 6 0 [(0, .long v0), (2, .long v2), (4, .long v4)] [] u := by
  unfold S_X10_in at h
  refine gx_lload_n X (j := 0) dX10_in_0 rfl rfl ?_
  refine gx_lload_n X (j := 1) dX10_in_1 rfl rfl ?_
  refine gx_lcmp X dX10_in_2 ?_
  refine gx_if_lt X (tgt := 17) dX10_in_3 (by decide) (fun c2 => ?_) (fun c2 => ?_)
  · replace h := h.1 c2
    refine gx_iconst X (v := 0) dX10_in_17 (by decide) ?_
    exact gx_zret X hQ rfl h dX10_in_18
  · replace h := h.2 c2
    refine gx_lload_n X (j := 0) dX10_in_6 rfl rfl ?_
    refine gx_lload X (j := 2) dX10_in_7 rfl ?_
    refine gx_lcmp X dX10_in_9 ?_
    refine gx_if_gt X (tgt := 17) dX10_in_10 (by decide) (fun c1 => ?_) (fun c1 => ?_)
    · replace h := h.1 c1
      refine gx_iconst X (v := 0) dX10_in_17 (by decide) ?_
      exact gx_zret X hQ rfl h dX10_in_18
    · replace h := h.2 c1
      refine gx_iconst X (v := 1) dX10_in_13 (by decide) ?_
      refine gx_goto X (tgt := 18) dX10_in_14 (by decide) ?_
      exact gx_zret X hQ rfl h dX10_in_18
theorem c_X10_in {l : Launch} {Z : gx_Z} {u : gx_S} {v0 : Int64} {v2 : Int64} {v4 : Int64} {post : Int32 → gx_S → Prop} (h : S_X10_in u v0 v2 v4 post) : Met l yX10_in (Cond.code yX10_in cX10_in 6 (some .boolean) :: gx_TB) (gx_rm 0) (gx_Pre Z u [.long v0, .long v2, .long v4]) (va_Qi post (gx_B Z) (gx_A Z)) 0 0 (gx_A Z) := by
  refine gx_met (by decide +kernel) (Nat.le_of_ble_eq_true rfl) ?_
  intro E X hZ hQ hD hL
  subst hZ
  exact w_X10_in X (Nat.le_of_eq hD.symm) hQ h
-- PlainSealModel.isSmall(I)Z
theorem dX10_isSmall_0 : decode cX10_isSmall 0 = .ok (.iload_n 0, 1) := by decide +kernel
theorem dX10_isSmall_1 : decode cX10_isSmall 1 = .ok (.bipush 97, 2) := by decide +kernel
theorem dX10_isSmall_3 : decode cX10_isSmall 3 = .ok (.if_icmp .lt 13, 3) := by decide +kernel
theorem dX10_isSmall_6 : decode cX10_isSmall 6 = .ok (.iload_n 0, 1) := by decide +kernel
theorem dX10_isSmall_7 : decode cX10_isSmall 7 = .ok (.bipush 122, 2) := by decide +kernel
theorem dX10_isSmall_9 : decode cX10_isSmall 9 = .ok (.if_icmp .gt 7, 3) := by decide +kernel
theorem dX10_isSmall_12 : decode cX10_isSmall 12 = .ok (.iconst 1, 1) := by decide +kernel
theorem dX10_isSmall_13 : decode cX10_isSmall 13 = .ok (.goto 4, 3) := by decide +kernel
theorem dX10_isSmall_16 : decode cX10_isSmall 16 = .ok (.iconst 0, 1) := by decide +kernel
theorem dX10_isSmall_17 : decode cX10_isSmall 17 = .ok (.ireturn, 1) := by decide +kernel
theorem hyX10_isSmall : yX10_isSmall.cls ≠ "java/lang/invoke/MethodHandle" ∧ yX10_isSmall.cls ≠ "java/lang/invoke/VarHandle" ∧ (parseMethodDescriptor yX10_isSmall.desc).map (fun d => d.parameters.length) = some 1 := by decide +kernel
def S_X10_isSmall (u : gx_S) (v0 : Int32) (post : Int32 → gx_S → Prop) : Prop := ((v0 < (97 : Int32) → post (0 : Int32) u) ∧ (¬ v0 < (97 : Int32) → (((122 : Int32) < v0 → post (0 : Int32) u) ∧ (¬ (122 : Int32) < v0 → post (1 : Int32) u))))
set_option maxHeartbeats 4000000 in
set_option maxRecDepth 100000 in
theorem w_X10_isSmall {E : gx_E} (X : gx_X E cX10_isSmall 1 RX10 (some .boolean)) (hd : 0 ≤ ex_d E) {post : Int32 → gx_S → Prop} (hQ : ex_Q E = va_Qi post (gx_B (ex_Z E)) (gx_A (ex_Z E))) {u : gx_S} {v0 : Int32} (h : S_X10_isSmall u v0 post) : gx_Wc E 1 0 [(0, .int v0)] [] u := by
  unfold S_X10_isSmall at h
  refine gx_iload_n X (j := 0) dX10_isSmall_0 rfl rfl ?_
  refine gx_bipush X (v := 97) dX10_isSmall_1 (by decide) ?_
  refine gx_icmp_lt X (tgt := 16) dX10_isSmall_3 (by decide) (fun c2 => ?_) (fun c2 => ?_)
  · replace h := h.1 c2
    refine gx_iconst X (v := 0) dX10_isSmall_16 (by decide) ?_
    exact gx_zret X hQ rfl h dX10_isSmall_17
  · replace h := h.2 c2
    refine gx_iload_n X (j := 0) dX10_isSmall_6 rfl rfl ?_
    refine gx_bipush X (v := 122) dX10_isSmall_7 (by decide) ?_
    refine gx_icmp_gt X (tgt := 16) dX10_isSmall_9 (by decide) (fun c1 => ?_) (fun c1 => ?_)
    · replace h := h.1 c1
      refine gx_iconst X (v := 0) dX10_isSmall_16 (by decide) ?_
      exact gx_zret X hQ rfl h dX10_isSmall_17
    · replace h := h.2 c1
      refine gx_iconst X (v := 1) dX10_isSmall_12 (by decide) ?_
      refine gx_goto X (tgt := 17) dX10_isSmall_13 (by decide) ?_
      exact gx_zret X hQ rfl h dX10_isSmall_17
theorem c_X10_isSmall {l : Launch} {Z : gx_Z} {u : gx_S} {v0 : Int32} {post : Int32 → gx_S → Prop} (h : S_X10_isSmall u v0 post) : Met l yX10_isSmall (Cond.code yX10_isSmall cX10_isSmall 1 (some .boolean) :: gx_TB) (gx_rm 0) (gx_Pre Z u [.int v0]) (va_Qi post (gx_B Z) (gx_A Z)) 0 0 (gx_A Z) := by
  refine gx_met (by decide +kernel) (Nat.le_of_ble_eq_true rfl) ?_
  intro E X hZ hQ hD hL
  subst hZ
  exact w_X10_isSmall X (Nat.le_of_eq hD.symm) hQ h
-- PlainSealModel.isDigit(I)Z
theorem dX10_isDigit_0 : decode cX10_isDigit 0 = .ok (.iload_n 0, 1) := by decide +kernel
theorem dX10_isDigit_1 : decode cX10_isDigit 1 = .ok (.bipush 48, 2) := by decide +kernel
theorem dX10_isDigit_3 : decode cX10_isDigit 3 = .ok (.if_icmp .lt 13, 3) := by decide +kernel
theorem dX10_isDigit_6 : decode cX10_isDigit 6 = .ok (.iload_n 0, 1) := by decide +kernel
theorem dX10_isDigit_7 : decode cX10_isDigit 7 = .ok (.bipush 57, 2) := by decide +kernel
theorem dX10_isDigit_9 : decode cX10_isDigit 9 = .ok (.if_icmp .gt 7, 3) := by decide +kernel
theorem dX10_isDigit_12 : decode cX10_isDigit 12 = .ok (.iconst 1, 1) := by decide +kernel
theorem dX10_isDigit_13 : decode cX10_isDigit 13 = .ok (.goto 4, 3) := by decide +kernel
theorem dX10_isDigit_16 : decode cX10_isDigit 16 = .ok (.iconst 0, 1) := by decide +kernel
theorem dX10_isDigit_17 : decode cX10_isDigit 17 = .ok (.ireturn, 1) := by decide +kernel
theorem hyX10_isDigit : yX10_isDigit.cls ≠ "java/lang/invoke/MethodHandle" ∧ yX10_isDigit.cls ≠ "java/lang/invoke/VarHandle" ∧ (parseMethodDescriptor yX10_isDigit.desc).map (fun d => d.parameters.length) = some 1 := by decide +kernel
def S_X10_isDigit (u : gx_S) (v0 : Int32) (post : Int32 → gx_S → Prop) : Prop := ((v0 < (48 : Int32) → post (0 : Int32) u) ∧ (¬ v0 < (48 : Int32) → (((57 : Int32) < v0 → post (0 : Int32) u) ∧ (¬ (57 : Int32) < v0 → post (1 : Int32) u))))
set_option maxHeartbeats 4000000 in
set_option maxRecDepth 100000 in
theorem w_X10_isDigit {E : gx_E} (X : gx_X E cX10_isDigit 1 RX10 (some .boolean)) (hd : 0 ≤ ex_d E) {post : Int32 → gx_S → Prop} (hQ : ex_Q E = va_Qi post (gx_B (ex_Z E)) (gx_A (ex_Z E))) {u : gx_S} {v0 : Int32} (h : S_X10_isDigit u v0 post) : gx_Wc E 1 0 [(0, .int v0)] [] u := by
  unfold S_X10_isDigit at h
  refine gx_iload_n X (j := 0) dX10_isDigit_0 rfl rfl ?_
  refine gx_bipush X (v := 48) dX10_isDigit_1 (by decide) ?_
  refine gx_icmp_lt X (tgt := 16) dX10_isDigit_3 (by decide) (fun c2 => ?_) (fun c2 => ?_)
  · replace h := h.1 c2
    refine gx_iconst X (v := 0) dX10_isDigit_16 (by decide) ?_
    exact gx_zret X hQ rfl h dX10_isDigit_17
  · replace h := h.2 c2
    refine gx_iload_n X (j := 0) dX10_isDigit_6 rfl rfl ?_
    refine gx_bipush X (v := 57) dX10_isDigit_7 (by decide) ?_
    refine gx_icmp_gt X (tgt := 16) dX10_isDigit_9 (by decide) (fun c1 => ?_) (fun c1 => ?_)
    · replace h := h.1 c1
      refine gx_iconst X (v := 0) dX10_isDigit_16 (by decide) ?_
      exact gx_zret X hQ rfl h dX10_isDigit_17
    · replace h := h.2 c1
      refine gx_iconst X (v := 1) dX10_isDigit_12 (by decide) ?_
      refine gx_goto X (tgt := 17) dX10_isDigit_13 (by decide) ?_
      exact gx_zret X hQ rfl h dX10_isDigit_17
theorem c_X10_isDigit {l : Launch} {Z : gx_Z} {u : gx_S} {v0 : Int32} {post : Int32 → gx_S → Prop} (h : S_X10_isDigit u v0 post) : Met l yX10_isDigit (Cond.code yX10_isDigit cX10_isDigit 1 (some .boolean) :: gx_TB) (gx_rm 0) (gx_Pre Z u [.int v0]) (va_Qi post (gx_B Z) (gx_A Z)) 0 0 (gx_A Z) := by
  refine gx_met (by decide +kernel) (Nat.le_of_ble_eq_true rfl) ?_
  intro E X hZ hQ hD hL
  subst hZ
  exact w_X10_isDigit X (Nat.le_of_eq hD.symm) hQ h
-- PlainSealModel.isLetter(I)Z
theorem dX10_isLetter_0 : decode cX10_isLetter 0 = .ok (.iload_n 0, 1) := by decide +kernel
theorem dX10_isLetter_1 : decode cX10_isLetter 1 = .ok (.invokestatic 3, 3) := by decide +kernel
theorem dX10_isLetter_4 : decode cX10_isLetter 4 = .ok (.ifCond .ne 15, 3) := by decide +kernel
theorem dX10_isLetter_7 : decode cX10_isLetter 7 = .ok (.iload_n 0, 1) := by decide +kernel
theorem dX10_isLetter_8 : decode cX10_isLetter 8 = .ok (.bipush 65, 2) := by decide +kernel
theorem dX10_isLetter_10 : decode cX10_isLetter 10 = .ok (.if_icmp .lt 13, 3) := by decide +kernel
theorem dX10_isLetter_13 : decode cX10_isLetter 13 = .ok (.iload_n 0, 1) := by decide +kernel
theorem dX10_isLetter_14 : decode cX10_isLetter 14 = .ok (.bipush 90, 2) := by decide +kernel
theorem dX10_isLetter_16 : decode cX10_isLetter 16 = .ok (.if_icmp .gt 7, 3) := by decide +kernel
theorem dX10_isLetter_19 : decode cX10_isLetter 19 = .ok (.iconst 1, 1) := by decide +kernel
theorem dX10_isLetter_20 : decode cX10_isLetter 20 = .ok (.goto 4, 3) := by decide +kernel
theorem dX10_isLetter_23 : decode cX10_isLetter 23 = .ok (.iconst 0, 1) := by decide +kernel
theorem dX10_isLetter_24 : decode cX10_isLetter 24 = .ok (.ireturn, 1) := by decide +kernel
theorem hyX10_isLetter : yX10_isLetter.cls ≠ "java/lang/invoke/MethodHandle" ∧ yX10_isLetter.cls ≠ "java/lang/invoke/VarHandle" ∧ (parseMethodDescriptor yX10_isLetter.desc).map (fun d => d.parameters.length) = some 1 := by decide +kernel
def S_X10_isLetter (u : gx_S) (v0 : Int32) (post : Int32 → gx_S → Prop) : Prop := (S_X10_isSmall u v0 (fun (r2 : Int32) (u1 : gx_S) => ((¬ r2 = 0 → post (1 : Int32) u1) ∧ (r2 = 0 → ((v0 < (65 : Int32) → post (0 : Int32) u1) ∧ (¬ v0 < (65 : Int32) → (((90 : Int32) < v0 → post (0 : Int32) u1) ∧ (¬ (90 : Int32) < v0 → post (1 : Int32) u1))))))))
set_option maxHeartbeats 4000000 in
set_option maxRecDepth 100000 in
theorem w_X10_isLetter {E : gx_E} (X : gx_X E cX10_isLetter 1 RX10 (some .boolean)) (hd : 1 ≤ ex_d E) {post : Int32 → gx_S → Prop} (hQ : ex_Q E = va_Qi post (gx_B (ex_Z E)) (gx_A (ex_Z E))) {u : gx_S} {v0 : Int32} (h : S_X10_isLetter u v0 post) : gx_Wc E 1 0 [(0, .int v0)] [] u := by
  unfold S_X10_isLetter at h
  refine gx_iload_n X (j := 0) dX10_isLetter_0 rfl rfl ?_
  refine gx_ki (gx_rS X (c_X10_isSmall h) (Nat.le_trans (by decide) hd) (Nat.le_trans (by decide) (Nat.mul_le_mul_left 40 hd)) mw_641 mw_642 mw_7 mw_643 hyX10_isSmall (As := [.int v0]) (rest := []) rfl rfl (Nat.le_of_ble_eq_true rfl) dX10_isLetter_1) (fun r2 u1 h => ?_)
  refine gx_if_ne X (tgt := 19) dX10_isLetter_4 (by decide) (fun c5 => ?_) (fun c5 => ?_)
  · replace h := h.1 c5
    refine gx_iconst X (v := 1) dX10_isLetter_19 (by decide) ?_
    refine gx_goto X (tgt := 24) dX10_isLetter_20 (by decide) ?_
    exact gx_zret X hQ rfl h dX10_isLetter_24
  · replace h := h.2 c5
    refine gx_iload_n X (j := 0) dX10_isLetter_7 rfl rfl ?_
    refine gx_bipush X (v := 65) dX10_isLetter_8 (by decide) ?_
    refine gx_icmp_lt X (tgt := 23) dX10_isLetter_10 (by decide) (fun c4 => ?_) (fun c4 => ?_)
    · replace h := h.1 c4
      refine gx_iconst X (v := 0) dX10_isLetter_23 (by decide) ?_
      exact gx_zret X hQ rfl h dX10_isLetter_24
    · replace h := h.2 c4
      refine gx_iload_n X (j := 0) dX10_isLetter_13 rfl rfl ?_
      refine gx_bipush X (v := 90) dX10_isLetter_14 (by decide) ?_
      refine gx_icmp_gt X (tgt := 23) dX10_isLetter_16 (by decide) (fun c3 => ?_) (fun c3 => ?_)
      · replace h := h.1 c3
        refine gx_iconst X (v := 0) dX10_isLetter_23 (by decide) ?_
        exact gx_zret X hQ rfl h dX10_isLetter_24
      · replace h := h.2 c3
        refine gx_iconst X (v := 1) dX10_isLetter_19 (by decide) ?_
        refine gx_goto X (tgt := 24) dX10_isLetter_20 (by decide) ?_
        exact gx_zret X hQ rfl h dX10_isLetter_24
theorem c_X10_isLetter {l : Launch} {Z : gx_Z} {u : gx_S} {v0 : Int32} {post : Int32 → gx_S → Prop} (h : S_X10_isLetter u v0 post) : Met l yX10_isLetter (Cond.code yX10_isLetter cX10_isLetter 1 (some .boolean) :: gx_TB) (gx_rm 1) (gx_Pre Z u [.int v0]) (va_Qi post (gx_B Z) (gx_A Z)) 0 0 (gx_A Z) := by
  refine gx_met (by decide +kernel) (Nat.le_of_ble_eq_true rfl) ?_
  intro E X hZ hQ hD hL
  subst hZ
  exact w_X10_isLetter X (Nat.le_of_eq hD.symm) hQ h
-- PlainSealModel.small(I)I
theorem dX10_small_0 : decode cX10_small 0 = .ok (.iload_n 0, 1) := by decide +kernel
theorem dX10_small_1 : decode cX10_small 1 = .ok (.bipush 65, 2) := by decide +kernel
theorem dX10_small_3 : decode cX10_small 3 = .ok (.if_icmp .lt 16, 3) := by decide +kernel
theorem dX10_small_6 : decode cX10_small 6 = .ok (.iload_n 0, 1) := by decide +kernel
theorem dX10_small_7 : decode cX10_small 7 = .ok (.bipush 90, 2) := by decide +kernel
theorem dX10_small_9 : decode cX10_small 9 = .ok (.if_icmp .gt 10, 3) := by decide +kernel
theorem dX10_small_12 : decode cX10_small 12 = .ok (.iload_n 0, 1) := by decide +kernel
theorem dX10_small_13 : decode cX10_small 13 = .ok (.bipush 32, 2) := by decide +kernel
theorem dX10_small_15 : decode cX10_small 15 = .ok (.iadd, 1) := by decide +kernel
theorem dX10_small_16 : decode cX10_small 16 = .ok (.goto 4, 3) := by decide +kernel
theorem dX10_small_19 : decode cX10_small 19 = .ok (.iload_n 0, 1) := by decide +kernel
theorem dX10_small_20 : decode cX10_small 20 = .ok (.ireturn, 1) := by decide +kernel
theorem hyX10_small : yX10_small.cls ≠ "java/lang/invoke/MethodHandle" ∧ yX10_small.cls ≠ "java/lang/invoke/VarHandle" ∧ (parseMethodDescriptor yX10_small.desc).map (fun d => d.parameters.length) = some 1 := by decide +kernel
def S_X10_small (u : gx_S) (v0 : Int32) (post : Int32 → gx_S → Prop) : Prop := ((v0 < (65 : Int32) → post v0 u) ∧ (¬ v0 < (65 : Int32) → (((90 : Int32) < v0 → post v0 u) ∧ (¬ (90 : Int32) < v0 → post (v0 + (32 : Int32)) u))))
set_option maxHeartbeats 4000000 in
set_option maxRecDepth 100000 in
theorem w_X10_small {E : gx_E} (X : gx_X E cX10_small 1 RX10 (some .int)) (hd : 0 ≤ ex_d E) {post : Int32 → gx_S → Prop} (hQ : ex_Q E = va_Qi post (gx_B (ex_Z E)) (gx_A (ex_Z E))) {u : gx_S} {v0 : Int32} (h : S_X10_small u v0 post) : gx_Wc E 1 0 [(0, .int v0)] [] u := by
  unfold S_X10_small at h
  refine gx_iload_n X (j := 0) dX10_small_0 rfl rfl ?_
  refine gx_bipush X (v := 65) dX10_small_1 (by decide) ?_
  refine gx_icmp_lt X (tgt := 19) dX10_small_3 (by decide) (fun c2 => ?_) (fun c2 => ?_)
  · replace h := h.1 c2
    refine gx_iload_n X (j := 0) dX10_small_19 rfl rfl ?_
    exact gx_iret X hQ h dX10_small_20
  · replace h := h.2 c2
    refine gx_iload_n X (j := 0) dX10_small_6 rfl rfl ?_
    refine gx_bipush X (v := 90) dX10_small_7 (by decide) ?_
    refine gx_icmp_gt X (tgt := 19) dX10_small_9 (by decide) (fun c1 => ?_) (fun c1 => ?_)
    · replace h := h.1 c1
      refine gx_iload_n X (j := 0) dX10_small_19 rfl rfl ?_
      exact gx_iret X hQ h dX10_small_20
    · replace h := h.2 c1
      refine gx_iload_n X (j := 0) dX10_small_12 rfl rfl ?_
      refine gx_bipush X (v := 32) dX10_small_13 (by decide) ?_
      refine gx_iadd X dX10_small_15 ?_
      refine gx_goto X (tgt := 20) dX10_small_16 (by decide) ?_
      exact gx_iret X hQ h dX10_small_20
theorem c_X10_small {l : Launch} {Z : gx_Z} {u : gx_S} {v0 : Int32} {post : Int32 → gx_S → Prop} (h : S_X10_small u v0 post) : Met l yX10_small (Cond.code yX10_small cX10_small 1 (some .int) :: gx_TB) (gx_rm 0) (gx_Pre Z u [.int v0]) (va_Qi post (gx_B Z) (gx_A Z)) 0 0 (gx_A Z) := by
  refine gx_met (by decide +kernel) (Nat.le_of_ble_eq_true rfl) ?_
  intro E X hZ hQ hD hL
  subst hZ
  exact w_X10_small X (Nat.le_of_eq hD.symm) hQ h
-- PlainSealModel.isWhite(I)Z
theorem dX10_isWhite_0 : decode cX10_isWhite 0 = .ok (.iload_n 0, 1) := by decide +kernel
theorem dX10_isWhite_1 : decode cX10_isWhite 1 = .ok (.bipush 32, 2) := by decide +kernel
theorem dX10_isWhite_3 : decode cX10_isWhite 3 = .ok (.if_icmp .eq 9, 3) := by decide +kernel
theorem dX10_isWhite_6 : decode cX10_isWhite 6 = .ok (.iload_n 0, 1) := by decide +kernel
theorem dX10_isWhite_7 : decode cX10_isWhite 7 = .ok (.bipush 9, 2) := by decide +kernel
theorem dX10_isWhite_9 : decode cX10_isWhite 9 = .ok (.if_icmp .ne 7, 3) := by decide +kernel
theorem dX10_isWhite_12 : decode cX10_isWhite 12 = .ok (.iconst 1, 1) := by decide +kernel
theorem dX10_isWhite_13 : decode cX10_isWhite 13 = .ok (.goto 4, 3) := by decide +kernel
theorem dX10_isWhite_16 : decode cX10_isWhite 16 = .ok (.iconst 0, 1) := by decide +kernel
theorem dX10_isWhite_17 : decode cX10_isWhite 17 = .ok (.ireturn, 1) := by decide +kernel
theorem hyX10_isWhite : yX10_isWhite.cls ≠ "java/lang/invoke/MethodHandle" ∧ yX10_isWhite.cls ≠ "java/lang/invoke/VarHandle" ∧ (parseMethodDescriptor yX10_isWhite.desc).map (fun d => d.parameters.length) = some 1 := by decide +kernel
def S_X10_isWhite (u : gx_S) (v0 : Int32) (post : Int32 → gx_S → Prop) : Prop := ((v0 = (32 : Int32) → post (1 : Int32) u) ∧ (¬ v0 = (32 : Int32) → ((¬ v0 = (9 : Int32) → post (0 : Int32) u) ∧ (v0 = (9 : Int32) → post (1 : Int32) u))))
set_option maxHeartbeats 4000000 in
set_option maxRecDepth 100000 in
theorem w_X10_isWhite {E : gx_E} (X : gx_X E cX10_isWhite 1 RX10 (some .boolean)) (hd : 0 ≤ ex_d E) {post : Int32 → gx_S → Prop} (hQ : ex_Q E = va_Qi post (gx_B (ex_Z E)) (gx_A (ex_Z E))) {u : gx_S} {v0 : Int32} (h : S_X10_isWhite u v0 post) : gx_Wc E 1 0 [(0, .int v0)] [] u := by
  unfold S_X10_isWhite at h
  refine gx_iload_n X (j := 0) dX10_isWhite_0 rfl rfl ?_
  refine gx_bipush X (v := 32) dX10_isWhite_1 (by decide) ?_
  refine gx_icmp_eq X (tgt := 12) dX10_isWhite_3 (by decide) (fun c2 => ?_) (fun c2 => ?_)
  · replace h := h.1 c2
    refine gx_iconst X (v := 1) dX10_isWhite_12 (by decide) ?_
    refine gx_goto X (tgt := 17) dX10_isWhite_13 (by decide) ?_
    exact gx_zret X hQ rfl h dX10_isWhite_17
  · replace h := h.2 c2
    refine gx_iload_n X (j := 0) dX10_isWhite_6 rfl rfl ?_
    refine gx_bipush X (v := 9) dX10_isWhite_7 (by decide) ?_
    refine gx_icmp_ne X (tgt := 16) dX10_isWhite_9 (by decide) (fun c1 => ?_) (fun c1 => ?_)
    · replace h := h.1 c1
      refine gx_iconst X (v := 0) dX10_isWhite_16 (by decide) ?_
      exact gx_zret X hQ rfl h dX10_isWhite_17
    · replace h := h.2 c1
      refine gx_iconst X (v := 1) dX10_isWhite_12 (by decide) ?_
      refine gx_goto X (tgt := 17) dX10_isWhite_13 (by decide) ?_
      exact gx_zret X hQ rfl h dX10_isWhite_17
theorem c_X10_isWhite {l : Launch} {Z : gx_Z} {u : gx_S} {v0 : Int32} {post : Int32 → gx_S → Prop} (h : S_X10_isWhite u v0 post) : Met l yX10_isWhite (Cond.code yX10_isWhite cX10_isWhite 1 (some .boolean) :: gx_TB) (gx_rm 0) (gx_Pre Z u [.int v0]) (va_Qi post (gx_B Z) (gx_A Z)) 0 0 (gx_A Z) := by
  refine gx_met (by decide +kernel) (Nat.le_of_ble_eq_true rfl) ?_
  intro E X hZ hQ hD hL
  subst hZ
  exact w_X10_isWhite X (Nat.le_of_eq hD.symm) hQ h
-- PlainSealModel.four(I)V
theorem dX10_four_0 : decode cX10_four 0 = .ok (.bipush 24, 2) := by decide +kernel
theorem dX10_four_2 : decode cX10_four 2 = .ok (.istore_n 2, 1) := by decide +kernel
theorem dX10_four_3 : decode cX10_four 3 = .ok (.iload_n 2, 1) := by decide +kernel
theorem dX10_four_4 : decode cX10_four 4 = .ok (.ifCond .lt 32, 3) := by decide +kernel
theorem dX10_four_7 : decode cX10_four 7 = .ok (.aload_n 0, 1) := by decide +kernel
theorem dX10_four_8 : decode cX10_four 8 = .ok (.getfield 13, 3) := by decide +kernel
theorem dX10_four_11 : decode cX10_four 11 = .ok (.aload_n 0, 1) := by decide +kernel
theorem dX10_four_12 : decode cX10_four 12 = .ok (.getfield 95, 3) := by decide +kernel
theorem dX10_four_15 : decode cX10_four 15 = .ok (.iload_n 1, 1) := by decide +kernel
theorem dX10_four_16 : decode cX10_four 16 = .ok (.iload_n 2, 1) := by decide +kernel
theorem dX10_four_17 : decode cX10_four 17 = .ok (.ishr, 1) := by decide +kernel
theorem dX10_four_18 : decode cX10_four 18 = .ok (.i2b, 1) := by decide +kernel
theorem dX10_four_19 : decode cX10_four 19 = .ok (.bastore, 1) := by decide +kernel
theorem dX10_four_20 : decode cX10_four 20 = .ok (.aload_n 0, 1) := by decide +kernel
theorem dX10_four_21 : decode cX10_four 21 = .ok (.dup, 1) := by decide +kernel
theorem dX10_four_22 : decode cX10_four 22 = .ok (.getfield 95, 3) := by decide +kernel
theorem dX10_four_25 : decode cX10_four 25 = .ok (.iconst 1, 1) := by decide +kernel
theorem dX10_four_26 : decode cX10_four 26 = .ok (.iadd, 1) := by decide +kernel
theorem dX10_four_27 : decode cX10_four 27 = .ok (.putfield 95, 3) := by decide +kernel
theorem dX10_four_30 : decode cX10_four 30 = .ok (.iinc 2 (-8), 3) := by decide +kernel
theorem dX10_four_33 : decode cX10_four 33 = .ok (.goto (-30), 3) := by decide +kernel
theorem dX10_four_36 : decode cX10_four 36 = .ok (.return_, 1) := by decide +kernel
theorem hyX10_four : yX10_four.cls ≠ "java/lang/invoke/MethodHandle" ∧ yX10_four.cls ≠ "java/lang/invoke/VarHandle" ∧ (parseMethodDescriptor yX10_four.desc).map (fun d => d.parameters.length) = some 1 := by decide +kernel
abbrev J_X10_four_3 (E : gx_E) (v0 : Nat) (v1 : Int32) (v2 : Int32) (u : gx_S) : Prop := gx_Wc E 3 3 [(0, .ref (ex_ad E v0)), (1, .int v1), (2, .int v2)] [] u
set_option maxHeartbeats 4000000 in
set_option maxRecDepth 100000 in
theorem w_X10_four_0 {E : gx_E} (X : gx_X E cX10_four 3 RX10 none) (hd : 0 ≤ ex_d E) {post : gx_S → Prop} (hQ : ex_Q E = va_Qv post (gx_B (ex_Z E)) (gx_A (ex_Z E))) {u : gx_S} {v0 : Nat} {v1 : Int32} (h : J_X10_four_3 E v0 v1 (24 : Int32) u) : gx_Wc E 3 0 [(0, .ref (ex_ad E v0)), (1, .int v1)] [] u := by
  refine gx_bipush X (v := 24) dX10_four_0 (by decide) ?_
  refine gx_istore_n X (lv' := [(2, .int (24 : Int32)), (0, .ref (ex_ad E v0)), (1, .int v1)]) dX10_four_2 rfl (by decide) rfl ?_
  exact gx_sub [1, 2, 0] rfl h
set_option maxHeartbeats 4000000 in
set_option maxRecDepth 100000 in
theorem w_X10_four_3 {E : gx_E} (X : gx_X E cX10_four 3 RX10 none) (hd : 0 ≤ ex_d E) {post : gx_S → Prop} (hQ : ex_Q E = va_Qv post (gx_B (ex_Z E)) (gx_A (ex_Z E))) {u : gx_S} {v0 : Nat} {v1 : Int32} {v2 : Int32} (h : ((v2 < 0 → post u) ∧ (¬ v2 < 0 → (gx_isO v0 9 ∧ (gx_isA (gx_r u v0 0) .byte ∧ vp_in (gx_i u v0 1) (gx_len (gx_r u v0 0)) ∧ ∀ u4 : gx_S, u4 = gx_pa u (gx_r u v0 0) (upd (gx_a u (gx_r u v0 0)) (gx_i u v0 1).toNatClampNeg (((v1 >>> (v2 &&& 31))).toInt8.toInt32).toInt8.toInt32) → (∀ u5 : gx_S, u5 = gx_pi u4 v0 1 ((gx_i u4 v0 1) + (1 : Int32)) → (∀ x6 : Int32, x6 = v2 + (-8) → J_X10_four_3 E v0 v1 x6 u5))))))) : gx_Wc E 3 3 [(0, .ref (ex_ad E v0)), (1, .int v1), (2, .int v2)] [] u := by
  refine gx_iload_n X (j := 2) dX10_four_3 rfl rfl ?_
  refine gx_if_lt X (tgt := 36) dX10_four_4 (by decide) (fun c7 => ?_) (fun c7 => ?_)
  · replace h := h.1 c7
    exact gx_vret X hQ h dX10_four_36
  · replace h := h.2 c7
    refine gx_aload_n X (j := 0) dX10_four_7 rfl rfl ?_
    obtain ⟨k1, h⟩ := h
    refine gx_get X k1 rfl iwX10 0 (by decide) mw_521 (v := .ref (ex_ad E (gx_r u v0 0))) rfl dX10_four_8 ?_
    refine gx_aload_n X (j := 0) dX10_four_11 rfl rfl ?_
    refine gx_get X k1 rfl iwX10 1 (by decide) mw_522 (v := .int (gx_i u v0 1)) rfl dX10_four_12 ?_
    refine gx_iload_n X (j := 1) dX10_four_15 rfl rfl ?_
    refine gx_iload_n X (j := 2) dX10_four_16 rfl rfl ?_
    refine gx_ishr X dX10_four_17 ?_
    refine gx_i2b X (v := ((v1 >>> (v2 &&& 31))).toInt8.toInt32) dX10_four_18 rfl ?_
    obtain ⟨k2, h⟩ := h
    obtain ⟨k3, h⟩ := h
    refine gx_bast X k2 k3 dX10_four_19 ?_
    refine gx_nams (fun u4 eu4 => ?_)
    replace h := h u4 eu4
    refine gx_aload_n X (j := 0) dX10_four_20 rfl rfl ?_
    refine gx_dup X dX10_four_21 rfl ?_
    refine gx_get X k1 rfl iwX10 1 (by decide) mw_522 (v := .int (gx_i u4 v0 1)) rfl dX10_four_22 ?_
    refine gx_iconst X (v := 1) dX10_four_25 (by decide) ?_
    refine gx_iadd X dX10_four_26 ?_
    refine gx_put X k1 rfl iwX10 tyX10_ok nmX10 1 (by decide) mw_522 rfl rfl rfl (fun _ => rfl) dX10_four_27 ?_
    refine gx_nams (fun u5 eu5 => ?_)
    replace h := h u5 eu5
    obtain ⟨x6, ex6⟩ : ∃ y : Int32, y = v2 + (-8) := ⟨_, rfl⟩
    replace h := h x6 ex6
    refine gx_iinc X (v := x6) (lv' := [(2, .int x6), (0, .ref (ex_ad E v0)), (1, .int v1)]) dX10_four_30 (j := 2) rfl (by rw [ex6]; rfl) (by decide) rfl ?_
    refine gx_goto X (tgt := 3) dX10_four_33 (by decide) ?_
    exact gx_sub [1, 2, 0] rfl h
-- PlainSealModel.used()I
theorem dX10_used_0 : decode cX10_used 0 = .ok (.aload_n 0, 1) := by decide +kernel
theorem dX10_used_1 : decode cX10_used 1 = .ok (.getfield 95, 3) := by decide +kernel
theorem dX10_used_4 : decode cX10_used 4 = .ok (.istore_n 1, 1) := by decide +kernel
theorem dX10_used_5 : decode cX10_used 5 = .ok (.aload_n 0, 1) := by decide +kernel
theorem dX10_used_6 : decode cX10_used 6 = .ok (.iconst 0, 1) := by decide +kernel
theorem dX10_used_7 : decode cX10_used 7 = .ok (.putfield 95, 3) := by decide +kernel
theorem dX10_used_10 : decode cX10_used 10 = .ok (.iload_n 1, 1) := by decide +kernel
theorem dX10_used_11 : decode cX10_used 11 = .ok (.ireturn, 1) := by decide +kernel
theorem hyX10_used : yX10_used.cls ≠ "java/lang/invoke/MethodHandle" ∧ yX10_used.cls ≠ "java/lang/invoke/VarHandle" ∧ (parseMethodDescriptor yX10_used.desc).map (fun d => d.parameters.length) = some 0 := by decide +kernel
def S_X10_used (u : gx_S) (v0 : Nat) (post : Int32 → gx_S → Prop) : Prop := (gx_isO v0 9 ∧ (∀ x2 : Int32, x2 = (gx_i u v0 1) → (∀ u3 : gx_S, u3 = gx_pi u v0 1 (0 : Int32) → post x2 u3)))
set_option maxHeartbeats 4000000 in
set_option maxRecDepth 100000 in
theorem w_X10_used {E : gx_E} (X : gx_X E cX10_used 2 RX10 (some .int)) (hd : 0 ≤ ex_d E) {post : Int32 → gx_S → Prop} (hQ : ex_Q E = va_Qi post (gx_B (ex_Z E)) (gx_A (ex_Z E))) {u : gx_S} {v0 : Nat} (h : S_X10_used u v0 post) : gx_Wc E 2 0 [(0, .ref (ex_ad E v0))] [] u := by
  unfold S_X10_used at h
  refine gx_aload_n X (j := 0) dX10_used_0 rfl rfl ?_
  obtain ⟨k1, h⟩ := h
  refine gx_get X k1 rfl iwX10 1 (by decide) mw_522 (v := .int (gx_i u v0 1)) rfl dX10_used_1 ?_
  refine gx_nami (fun x2 ex2 => ?_)
  replace h := h x2 ex2
  refine gx_istore_n X (lv' := [(1, .int x2), (0, .ref (ex_ad E v0))]) dX10_used_4 rfl (by decide) rfl ?_
  refine gx_aload_n X (j := 1) dX10_used_5 rfl rfl ?_
  refine gx_iconst X (v := 0) dX10_used_6 (by decide) ?_
  refine gx_put X k1 rfl iwX10 tyX10_ok nmX10 1 (by decide) mw_522 rfl rfl rfl (fun _ => rfl) dX10_used_7 ?_
  refine gx_nams (fun u3 eu3 => ?_)
  replace h := h u3 eu3
  refine gx_iload_n X (j := 0) dX10_used_10 rfl rfl ?_
  exact gx_iret X hQ h dX10_used_11
theorem c_X10_used {l : Launch} {Z : gx_Z} {u : gx_S} {v0 : Nat} {post : Int32 → gx_S → Prop} (h : S_X10_used u v0 post) : Met l yX10_used (Cond.code yX10_used cX10_used 2 (some .int) :: gx_TB) (gx_rm 0) (gx_Pre Z u [.ref (Z.2.1 v0)]) (va_Qi post (gx_B Z) (gx_A Z)) 0 0 (gx_A Z) := by
  refine gx_met (by decide +kernel) (Nat.le_of_ble_eq_true rfl) ?_
  intro E X hZ hQ hD hL
  subst hZ
  exact w_X10_used X (Nat.le_of_eq hD.symm) hQ h
-- PlainSealModel.lineEnd([BII)I
theorem dX10_lineEnd_0 : decode cX10_lineEnd 0 = .ok (.iload_n 1, 1) := by decide +kernel
theorem dX10_lineEnd_1 : decode cX10_lineEnd 1 = .ok (.istore_n 3, 1) := by decide +kernel
theorem dX10_lineEnd_2 : decode cX10_lineEnd 2 = .ok (.iload_n 3, 1) := by decide +kernel
theorem dX10_lineEnd_3 : decode cX10_lineEnd 3 = .ok (.iload_n 2, 1) := by decide +kernel
theorem dX10_lineEnd_4 : decode cX10_lineEnd 4 = .ok (.if_icmp .ge 17, 3) := by decide +kernel
theorem dX10_lineEnd_7 : decode cX10_lineEnd 7 = .ok (.aload_n 0, 1) := by decide +kernel
theorem dX10_lineEnd_8 : decode cX10_lineEnd 8 = .ok (.iload_n 3, 1) := by decide +kernel
theorem dX10_lineEnd_9 : decode cX10_lineEnd 9 = .ok (.baload, 1) := by decide +kernel
theorem dX10_lineEnd_10 : decode cX10_lineEnd 10 = .ok (.bipush 10, 2) := by decide +kernel
theorem dX10_lineEnd_12 : decode cX10_lineEnd 12 = .ok (.if_icmp .eq 9, 3) := by decide +kernel
theorem dX10_lineEnd_15 : decode cX10_lineEnd 15 = .ok (.iinc 3 1, 3) := by decide +kernel
theorem dX10_lineEnd_18 : decode cX10_lineEnd 18 = .ok (.goto (-16), 3) := by decide +kernel
theorem dX10_lineEnd_21 : decode cX10_lineEnd 21 = .ok (.iload_n 2, 1) := by decide +kernel
theorem dX10_lineEnd_22 : decode cX10_lineEnd 22 = .ok (.iload_n 3, 1) := by decide +kernel
theorem dX10_lineEnd_23 : decode cX10_lineEnd 23 = .ok (.iconst 1, 1) := by decide +kernel
theorem dX10_lineEnd_24 : decode cX10_lineEnd 24 = .ok (.iadd, 1) := by decide +kernel
theorem dX10_lineEnd_25 : decode cX10_lineEnd 25 = .ok (.invokestatic 106, 3) := by decide +kernel
theorem dX10_lineEnd_28 : decode cX10_lineEnd 28 = .ok (.ireturn, 1) := by decide +kernel
theorem hyX10_lineEnd : yX10_lineEnd.cls ≠ "java/lang/invoke/MethodHandle" ∧ yX10_lineEnd.cls ≠ "java/lang/invoke/VarHandle" ∧ (parseMethodDescriptor yX10_lineEnd.desc).map (fun d => d.parameters.length) = some 3 := by decide +kernel
abbrev J_X10_lineEnd_2 (E : gx_E) (v0 : Nat) (v1 : Int32) (v2 : Int32) (v3 : Int32) (u : gx_S) : Prop := gx_Wc E 4 2 [(0, .ref (ex_ad E v0)), (1, .int v1), (2, .int v2), (3, .int v3)] [] u
set_option maxHeartbeats 4000000 in
set_option maxRecDepth 100000 in
theorem w_X10_lineEnd_0 {E : gx_E} (X : gx_X E cX10_lineEnd 4 RX10 (some .int)) (hd : 1 ≤ ex_d E) {post : Int32 → gx_S → Prop} (hQ : ex_Q E = va_Qi post (gx_B (ex_Z E)) (gx_A (ex_Z E))) {u : gx_S} {v0 : Nat} {v1 : Int32} {v2 : Int32} (h : J_X10_lineEnd_2 E v0 v1 v2 v1 u) : gx_Wc E 4 0 [(0, .ref (ex_ad E v0)), (1, .int v1), (2, .int v2)] [] u := by
  refine gx_iload_n X (j := 1) dX10_lineEnd_0 rfl rfl ?_
  refine gx_istore_n X (lv' := [(3, .int v1), (0, .ref (ex_ad E v0)), (1, .int v1), (2, .int v2)]) dX10_lineEnd_1 rfl (by decide) rfl ?_
  exact gx_sub [1, 2, 3, 0] rfl h
set_option maxHeartbeats 4000000 in
set_option maxRecDepth 100000 in
theorem w_X10_lineEnd_2 {E : gx_E} (X : gx_X E cX10_lineEnd 4 RX10 (some .int)) (hd : 1 ≤ ex_d E) {post : Int32 → gx_S → Prop} (hQ : ex_Q E = va_Qi post (gx_B (ex_Z E)) (gx_A (ex_Z E))) {u : gx_S} {v0 : Nat} {v1 : Int32} {v2 : Int32} {v3 : Int32} (h : ((v2 ≤ v3 → post (if (v3 + (1 : Int32)) < v2 then (v3 + (1 : Int32)) else v2) u) ∧ (¬ v2 ≤ v3 → (gx_isR v0 .byte ∧ vp_in v3 (gx_len v0) ∧ (((gx_a u v0 v3.toNatClampNeg) = (10 : Int32) → post (if (v3 + (1 : Int32)) < v2 then (v3 + (1 : Int32)) else v2) u) ∧ (¬ (gx_a u v0 v3.toNatClampNeg) = (10 : Int32) → (∀ x3 : Int32, x3 = v3 + 1 → J_X10_lineEnd_2 E v0 v1 v2 x3 u))))))) : gx_Wc E 4 2 [(0, .ref (ex_ad E v0)), (1, .int v1), (2, .int v2), (3, .int v3)] [] u := by
  refine gx_iload_n X (j := 3) dX10_lineEnd_2 rfl rfl ?_
  refine gx_iload_n X (j := 2) dX10_lineEnd_3 rfl rfl ?_
  refine gx_icmp_ge X (tgt := 21) dX10_lineEnd_4 (by decide) (fun c5 => ?_) (fun c5 => ?_)
  · replace h := h.1 c5
    refine gx_iload_n X (j := 2) dX10_lineEnd_21 rfl rfl ?_
    refine gx_iload_n X (j := 3) dX10_lineEnd_22 rfl rfl ?_
    refine gx_iconst X (v := 1) dX10_lineEnd_23 (by decide) ?_
    refine gx_iadd X dX10_lineEnd_24 ?_
    refine gx_mmin X (Nat.le_trans (by decide) hd) mw_632 mw_633 mw_11 mw_634 (Nat.le_of_ble_eq_true rfl) dX10_lineEnd_25 ?_
    exact gx_iret X hQ h dX10_lineEnd_28
  · replace h := h.2 c5
    refine gx_aload_n X (j := 0) dX10_lineEnd_7 rfl rfl ?_
    refine gx_iload_n X (j := 3) dX10_lineEnd_8 rfl rfl ?_
    obtain ⟨k1, h⟩ := h
    obtain ⟨k2, h⟩ := h
    refine gx_bald X k1 k2 dX10_lineEnd_9 ?_
    refine gx_bipush X (v := 10) dX10_lineEnd_10 (by decide) ?_
    refine gx_icmp_eq X (tgt := 21) dX10_lineEnd_12 (by decide) (fun c4 => ?_) (fun c4 => ?_)
    · replace h := h.1 c4
      refine gx_iload_n X (j := 2) dX10_lineEnd_21 rfl rfl ?_
      refine gx_iload_n X (j := 3) dX10_lineEnd_22 rfl rfl ?_
      refine gx_iconst X (v := 1) dX10_lineEnd_23 (by decide) ?_
      refine gx_iadd X dX10_lineEnd_24 ?_
      refine gx_mmin X (Nat.le_trans (by decide) hd) mw_632 mw_633 mw_11 mw_634 (Nat.le_of_ble_eq_true rfl) dX10_lineEnd_25 ?_
      exact gx_iret X hQ h dX10_lineEnd_28
    · replace h := h.2 c4
      obtain ⟨x3, ex3⟩ : ∃ y : Int32, y = v3 + 1 := ⟨_, rfl⟩
      replace h := h x3 ex3
      refine gx_iinc X (v := x3) (lv' := [(3, .int x3), (0, .ref (ex_ad E v0)), (1, .int v1), (2, .int v2)]) dX10_lineEnd_15 (j := 3) rfl (by rw [ex3]; rfl) (by decide) rfl ?_
      refine gx_goto X (tgt := 2) dX10_lineEnd_18 (by decide) ?_
      exact gx_sub [1, 2, 3, 0] rfl h
-- PlainSealModel$Text.add(I)V
theorem dX9_add_0 : decode cX9_add 0 = .ok (.aload_n 0, 1) := by decide +kernel
theorem dX9_add_1 : decode cX9_add 1 = .ok (.getfield 7, 3) := by decide +kernel
theorem dX9_add_4 : decode cX9_add 4 = .ok (.aload_n 0, 1) := by decide +kernel
theorem dX9_add_5 : decode cX9_add 5 = .ok (.getfield 13, 3) := by decide +kernel
theorem dX9_add_8 : decode cX9_add 8 = .ok (.iload_n 1, 1) := by decide +kernel
theorem dX9_add_9 : decode cX9_add 9 = .ok (.i2b, 1) := by decide +kernel
theorem dX9_add_10 : decode cX9_add 10 = .ok (.bastore, 1) := by decide +kernel
theorem dX9_add_11 : decode cX9_add 11 = .ok (.aload_n 0, 1) := by decide +kernel
theorem dX9_add_12 : decode cX9_add 12 = .ok (.dup, 1) := by decide +kernel
theorem dX9_add_13 : decode cX9_add 13 = .ok (.getfield 13, 3) := by decide +kernel
theorem dX9_add_16 : decode cX9_add 16 = .ok (.iconst 1, 1) := by decide +kernel
theorem dX9_add_17 : decode cX9_add 17 = .ok (.iadd, 1) := by decide +kernel
theorem dX9_add_18 : decode cX9_add 18 = .ok (.putfield 13, 3) := by decide +kernel
theorem dX9_add_21 : decode cX9_add 21 = .ok (.return_, 1) := by decide +kernel
theorem hyX9_add : yX9_add.cls ≠ "java/lang/invoke/MethodHandle" ∧ yX9_add.cls ≠ "java/lang/invoke/VarHandle" ∧ (parseMethodDescriptor yX9_add.desc).map (fun d => d.parameters.length) = some 1 := by decide +kernel
def S_X9_add (u : gx_S) (v0 : Nat) (v1 : Int32) (post : gx_S → Prop) : Prop := (gx_isO v0 8 ∧ (gx_isA (gx_r u v0 0) .byte ∧ vp_in (gx_i u v0 1) (gx_len (gx_r u v0 0)) ∧ ∀ u4 : gx_S, u4 = gx_pa u (gx_r u v0 0) (upd (gx_a u (gx_r u v0 0)) (gx_i u v0 1).toNatClampNeg ((v1).toInt8.toInt32).toInt8.toInt32) → (∀ u5 : gx_S, u5 = gx_pi u4 v0 1 ((gx_i u4 v0 1) + (1 : Int32)) → post u5)))
set_option maxHeartbeats 4000000 in
set_option maxRecDepth 100000 in
theorem w_X9_add {E : gx_E} (X : gx_X E cX9_add 2 RX9 none) (hd : 0 ≤ ex_d E) {post : gx_S → Prop} (hQ : ex_Q E = va_Qv post (gx_B (ex_Z E)) (gx_A (ex_Z E))) {u : gx_S} {v0 : Nat} {v1 : Int32} (h : S_X9_add u v0 v1 post) : gx_Wc E 2 0 [(0, .ref (ex_ad E v0)), (1, .int v1)] [] u := by
  unfold S_X9_add at h
  refine gx_aload_n X (j := 0) dX9_add_0 rfl rfl ?_
  obtain ⟨k1, h⟩ := h
  refine gx_get X k1 rfl iwX9 0 (by decide) mw_439 (v := .ref (ex_ad E (gx_r u v0 0))) rfl dX9_add_1 ?_
  refine gx_aload_n X (j := 0) dX9_add_4 rfl rfl ?_
  refine gx_get X k1 rfl iwX9 1 (by decide) mw_442 (v := .int (gx_i u v0 1)) rfl dX9_add_5 ?_
  refine gx_iload_n X (j := 1) dX9_add_8 rfl rfl ?_
  refine gx_i2b X (v := (v1).toInt8.toInt32) dX9_add_9 rfl ?_
  obtain ⟨k2, h⟩ := h
  obtain ⟨k3, h⟩ := h
  refine gx_bast X k2 k3 dX9_add_10 ?_
  refine gx_nams (fun u4 eu4 => ?_)
  replace h := h u4 eu4
  refine gx_aload_n X (j := 0) dX9_add_11 rfl rfl ?_
  refine gx_dup X dX9_add_12 rfl ?_
  refine gx_get X k1 rfl iwX9 1 (by decide) mw_442 (v := .int (gx_i u4 v0 1)) rfl dX9_add_13 ?_
  refine gx_iconst X (v := 1) dX9_add_16 (by decide) ?_
  refine gx_iadd X dX9_add_17 ?_
  refine gx_put X k1 rfl iwX9 tyX9_ok nmX9 1 (by decide) mw_442 rfl rfl rfl (fun _ => rfl) dX9_add_18 ?_
  refine gx_nams (fun u5 eu5 => ?_)
  replace h := h u5 eu5
  exact gx_vret X hQ h dX9_add_21
theorem c_X9_add {l : Launch} {Z : gx_Z} {u : gx_S} {v0 : Nat} {v1 : Int32} {post : gx_S → Prop} (h : S_X9_add u v0 v1 post) : Met l yX9_add (Cond.code yX9_add cX9_add 2 none :: gx_TB) (gx_rm 0) (gx_Pre Z u [.ref (Z.2.1 v0), .int v1]) (va_Qv post (gx_B Z) (gx_A Z)) 0 0 (gx_A Z) := by
  refine gx_met (by decide +kernel) (Nat.le_of_ble_eq_true rfl) ?_
  intro E X hZ hQ hD hL
  subst hZ
  exact w_X9_add X (Nat.le_of_eq hD.symm) hQ h
-- PlainSealModel.tell(LPlainSealModel$Text;)I
theorem dX10_tell_0 : decode cX10_tell 0 = .ok (.aload_n 1, 1) := by decide +kernel
theorem dX10_tell_1 : decode cX10_tell 1 = .ok (.getfield 163, 3) := by decide +kernel
theorem dX10_tell_4 : decode cX10_tell 4 = .ok (.iconst 0, 1) := by decide +kernel
theorem dX10_tell_5 : decode cX10_tell 5 = .ok (.aload_n 0, 1) := by decide +kernel
theorem dX10_tell_6 : decode cX10_tell 6 = .ok (.getfield 17, 3) := by decide +kernel
theorem dX10_tell_9 : decode cX10_tell 9 = .ok (.iconst 0, 1) := by decide +kernel
theorem dX10_tell_10 : decode cX10_tell 10 = .ok (.aload_n 1, 1) := by decide +kernel
theorem dX10_tell_11 : decode cX10_tell 11 = .ok (.getfield 150, 3) := by decide +kernel
theorem dX10_tell_14 : decode cX10_tell 14 = .ok (.invokestatic 134, 3) := by decide +kernel
theorem dX10_tell_17 : decode cX10_tell 17 = .ok (.aload_n 0, 1) := by decide +kernel
theorem dX10_tell_18 : decode cX10_tell 18 = .ok (.aload_n 1, 1) := by decide +kernel
theorem dX10_tell_19 : decode cX10_tell 19 = .ok (.getfield 150, 3) := by decide +kernel
theorem dX10_tell_22 : decode cX10_tell 22 = .ok (.putfield 166, 3) := by decide +kernel
theorem dX10_tell_25 : decode cX10_tell 25 = .ok (.aload_n 1, 1) := by decide +kernel
theorem dX10_tell_26 : decode cX10_tell 26 = .ok (.getfield 150, 3) := by decide +kernel
theorem dX10_tell_29 : decode cX10_tell 29 = .ok (.ireturn, 1) := by decide +kernel
theorem hyX10_tell : yX10_tell.cls ≠ "java/lang/invoke/MethodHandle" ∧ yX10_tell.cls ≠ "java/lang/invoke/VarHandle" ∧ (parseMethodDescriptor yX10_tell.desc).map (fun d => d.parameters.length) = some 1 := by decide +kernel
def S_X10_tell (u : gx_S) (v0 : Nat) (v1 : Nat) (post : Int32 → gx_S → Prop) : Prop := (gx_isO v1 8 ∧ (gx_isO v0 9 ∧ (gx_isR (gx_r u v1 0) .byte ∧ gx_isA (gx_r u v0 3) .byte ∧ ¬ (0 : Int32) < 0 ∧ ¬ (0 : Int32) < 0 ∧ ¬ (gx_i u v1 1) < 0 ∧ (0 : Int32).toNatClampNeg + (gx_i u v1 1).toNatClampNeg ≤ gx_len (gx_r u v1 0) ∧ (0 : Int32).toNatClampNeg + (gx_i u v1 1).toNatClampNeg ≤ gx_len (gx_r u v0 3) ∧ ∀ u10 : gx_S, u10 = gx_pa u (gx_r u v0 3) (va_cpy (gx_a u (gx_r u v1 0)) (gx_a u (gx_r u v0 3)) (0 : Int32).toNatClampNeg (0 : Int32).toNatClampNeg (gx_i u v1 1).toNatClampNeg) → (∀ u11 : gx_S, u11 = gx_pi u10 v0 2 (gx_i u10 v1 1) → post (gx_i u11 v1 1) u11))))
set_option maxHeartbeats 4000000 in
set_option maxRecDepth 100000 in
theorem w_X10_tell {E : gx_E} (X : gx_X E cX10_tell 2 RX10 (some .int)) (hd : 1 ≤ ex_d E) {post : Int32 → gx_S → Prop} (hQ : ex_Q E = va_Qi post (gx_B (ex_Z E)) (gx_A (ex_Z E))) {u : gx_S} {v0 : Nat} {v1 : Nat} (h : S_X10_tell u v0 v1 post) : gx_Wc E 2 0 [(0, .ref (ex_ad E v0)), (1, .ref (ex_ad E v1))] [] u := by
  unfold S_X10_tell at h
  refine gx_aload_n X (j := 1) dX10_tell_0 rfl rfl ?_
  obtain ⟨k1, h⟩ := h
  refine gx_get X k1 rfl iwX9 0 (by decide) mw_441 (v := .ref (ex_ad E (gx_r u v1 0))) rfl dX10_tell_1 ?_
  refine gx_iconst X (v := 0) dX10_tell_4 (by decide) ?_
  refine gx_aload_n X (j := 0) dX10_tell_5 rfl rfl ?_
  obtain ⟨k2, h⟩ := h
  refine gx_get X k2 rfl iwX10 3 (by decide) mw_524 (v := .ref (ex_ad E (gx_r u v0 3))) rfl dX10_tell_6 ?_
  refine gx_iconst X (v := 0) dX10_tell_9 (by decide) ?_
  refine gx_aload_n X (j := 1) dX10_tell_10 rfl rfl ?_
  refine gx_get X k1 rfl iwX9 1 (by decide) mw_444 (v := .int (gx_i u v1 1)) rfl dX10_tell_11 ?_
  obtain ⟨k3, h⟩ := h
  obtain ⟨k4, h⟩ := h
  obtain ⟨k5, k6, k7, k8, k9, h⟩ := h
  refine gx_copy X (Nat.le_trans (by decide) hd) k3 k4 rfl k5 k6 k7 k8 k9 mw_648 mw_339 mw_338 mw_12 (Nat.le_of_ble_eq_true rfl) dX10_tell_14 ?_
  refine gx_nams (fun u10 eu10 => ?_)
  replace h := h u10 eu10
  refine gx_aload_n X (j := 0) dX10_tell_17 rfl rfl ?_
  refine gx_aload_n X (j := 1) dX10_tell_18 rfl rfl ?_
  refine gx_get X k1 rfl iwX9 1 (by decide) mw_444 (v := .int (gx_i u10 v1 1)) rfl dX10_tell_19 ?_
  refine gx_put X k2 rfl iwX10 tyX10_ok nmX10 2 (by decide) mw_523 rfl rfl rfl (fun _ => rfl) dX10_tell_22 ?_
  refine gx_nams (fun u11 eu11 => ?_)
  replace h := h u11 eu11
  refine gx_aload_n X (j := 1) dX10_tell_25 rfl rfl ?_
  refine gx_get X k1 rfl iwX9 1 (by decide) mw_444 (v := .int (gx_i u11 v1 1)) rfl dX10_tell_26 ?_
  exact gx_iret X hQ h dX10_tell_29
theorem c_X10_tell {l : Launch} {Z : gx_Z} {u : gx_S} {v0 : Nat} {v1 : Nat} {post : Int32 → gx_S → Prop} (h : S_X10_tell u v0 v1 post) : Met l yX10_tell (Cond.code yX10_tell cX10_tell 2 (some .int) :: gx_TB) (gx_rm 1) (gx_Pre Z u [.ref (Z.2.1 v0), .ref (Z.2.1 v1)]) (va_Qi post (gx_B Z) (gx_A Z)) 0 0 (gx_A Z) := by
  refine gx_met (by decide +kernel) (Nat.le_of_ble_eq_true rfl) ?_
  intro E X hZ hQ hD hL
  subst hZ
  exact w_X10_tell X (Nat.le_of_eq hD.symm) hQ h
/-! THE MODEL: bytes stand raw in its arrays: sb_b c -/
theorem sb_lo : ∀ k, k < 128 → sb_b k = nI k := by decide +kernel
theorem sb_eq {c k : Nat} (hc : c < 256) (hk : k < 128) : sb_b c = nI k ↔ c = k := by
  rw [← sb_lo k hk]
  have h1 := sc_eq (b := sb_b c) (byte_sb hc) (n := k) (by omega)
  rw [show sb_b k = (nI k).toInt8.toInt32 from rfl, h1, sb_nI hc, nI_eq (by omega) (by omega)]
theorem sb_97 : ∀ c, c < 256 → (sb_b c < (97 : Int32) ↔ (c < 97 ∨ 128 ≤ c)) := by decide +kernel
theorem sb_122 : ∀ c, c < 256 → ((122 : Int32) < sb_b c ↔ (122 < c ∧ c < 128)) := by decide +kernel
theorem sb_65 : ∀ c, c < 256 → (sb_b c < (65 : Int32) ↔ (c < 65 ∨ 128 ≤ c)) := by decide +kernel
theorem sb_90 : ∀ c, c < 256 → ((90 : Int32) < sb_b c ↔ (90 < c ∧ c < 128)) := by decide +kernel
theorem sb_48 : ∀ c, c < 256 → (sb_b c < (48 : Int32) ↔ (c < 48 ∨ 128 ≤ c)) := by decide +kernel
theorem sb_57 : ∀ c, c < 256 → ((57 : Int32) < sb_b c ↔ (57 < c ∧ c < 128)) := by decide +kernel
theorem i_X10_isWhite {u : gx_S} {c : Nat} {post : Int32 → gx_S → Prop} (hc : c < 256) (h : post (b2 (isW c)) u) : S_X10_isWhite u (sb_b c) post := by
  have e1 : sb_b c = (32 : Int32) ↔ c = 32 := sb_eq (k := 32) hc (by omega)
  have e2 : sb_b c = (9 : Int32) ↔ c = 9 := sb_eq (k := 9) hc (by omega)
  unfold S_X10_isWhite
  rw [e1, e2]
  unfold isW b2 at h
  refine ⟨fun q => ?_, fun q => ⟨fun q2 => ?_, fun q2 => ?_⟩⟩
  · subst q; exact h
  · simpa [q, q2] using h
  · subst q2; exact h
theorem i_X10_isSmall {u : gx_S} {c : Nat} {post : Int32 → gx_S → Prop} (hc : c < 256) (h : post (b2 (isS c)) u) : S_X10_isSmall u (sb_b c) post := by
  unfold S_X10_isSmall
  rw [sb_97 c hc, sb_122 c hc]
  unfold isS b2 at h
  refine ⟨fun q => ?_, fun q => ⟨fun q2 => ?_, fun q2 => ?_⟩⟩
  · rwa [show (decide (97 ≤ c) && decide (c ≤ 122)) = false by simp; omega] at h
  · rwa [show (decide (97 ≤ c) && decide (c ≤ 122)) = false by simp; omega] at h
  · rwa [show (decide (97 ≤ c) && decide (c ≤ 122)) = true by simp; omega] at h
theorem i_X10_isDigit {u : gx_S} {c : Nat} {post : Int32 → gx_S → Prop} (hc : c < 256) (h : post (b2 (isD c)) u) : S_X10_isDigit u (sb_b c) post := by
  unfold S_X10_isDigit
  rw [sb_48 c hc, sb_57 c hc]
  unfold isD b2 at h
  refine ⟨fun q => ?_, fun q => ⟨fun q2 => ?_, fun q2 => ?_⟩⟩
  · rwa [show (decide (48 ≤ c) && decide (c ≤ 57)) = false by simp; omega] at h
  · rwa [show (decide (48 ≤ c) && decide (c ≤ 57)) = false by simp; omega] at h
  · rwa [show (decide (48 ≤ c) && decide (c ≤ 57)) = true by simp; omega] at h
theorem i_X10_isLetter {u : gx_S} {c : Nat} {post : Int32 → gx_S → Prop} (hc : c < 256) (h : post (b2 (isS c || isG c)) u) : S_X10_isLetter u (sb_b c) post := by
  refine i_X10_isSmall hc ⟨fun q => ?_, fun q => ?_⟩
  · rw [b2_n0 q, Bool.true_or] at h; exact h
  · rw [b2_0] at q
    rw [q, Bool.false_or] at h
    rw [sb_65 c hc, sb_90 c hc]
    unfold isG b2 at h
    refine ⟨fun q => ?_, fun q => ⟨fun q2 => ?_, fun q2 => ?_⟩⟩
    · rwa [show (decide (65 ≤ c) && decide (c ≤ 90)) = false by simp; omega] at h
    · rwa [show (decide (65 ≤ c) && decide (c ≤ 90)) = false by simp; omega] at h
    · rwa [show (decide (65 ≤ c) && decide (c ≤ 90)) = true by simp; omega] at h
theorem sml_lt {c : Nat} (h : c < 256) : sml c < 256 := by
  unfold sml isG
  split
  · rename_i q; simp at q; omega
  · exact h
theorem i_X10_small {u : gx_S} {c : Nat} {post : Int32 → gx_S → Prop} (hc : c < 256) (h : post (sb_b (sml c)) u) : S_X10_small u (sb_b c) post := by
  unfold S_X10_small
  rw [sb_65 c hc, sb_90 c hc]
  unfold sml isG at h
  refine ⟨fun q => ?_, fun q => ⟨fun q2 => ?_, fun q2 => ?_⟩⟩
  · rw [if_neg (by simp; omega)] at h; exact h
  · rw [if_neg (by simp; omega)] at h; exact h
  · rw [if_pos (by simp; omega)] at h
    rw [sb_lo c (by omega), show (32 : Int32) = nI 32 from rfl, nI_add, ← sb_lo (c + 32) (by omega)]
    exact h
theorem lg_lt (x y : Int64) : lg_cmp x y < 0 ↔ x < y := by
  have := lg_cmp_ge x y
  rw [← Int32.not_le, this, Int64.not_le]
theorem lg_gt (x y : Int64) : 0 < lg_cmp x y ↔ y < x := by
  unfold lg_cmp
  simp only [gt_iff_lt]
  constructor
  · intro h
    split at h
    · assumption
    · split at h
      · exact absurd h (by decide)
      · exact absurd h (by decide)
  · intro h
    rw [if_pos h]; decide
theorem i_X10_in {u : gx_S} {a b c : Int} {post : Int32 → gx_S → Prop} (ha : -4611686018427387904 ≤ a ∧ a < 4611686018427387904) (hb : -4611686018427387904 ≤ b ∧ b < 4611686018427387904) (hc : -4611686018427387904 ≤ c ∧ c < 4611686018427387904) (h : post (b2 (decide (b ≤ a ∧ a ≤ c))) u) : S_X10_in u (lz a) (lz b) (lz c) post := by
  unfold S_X10_in
  rw [lg_lt, lg_gt, Int64.lt_iff_toInt_lt, Int64.lt_iff_toInt_lt, lz_toInt ha.1 ha.2, lz_toInt hb.1 hb.2, lz_toInt hc.1 hc.2]
  refine ⟨fun q => ?_, fun q => ⟨fun q2 => ?_, fun q2 => ?_⟩⟩
  · rw [decide_eq_false (by omega)] at h; exact h
  · rw [decide_eq_false (by omega)] at h; exact h
  · rw [decide_eq_true (by omega)] at h; exact h
theorem i2l_ (x : Int32) : x.toInt64 = lz x.toInt := by
  apply Int64.toInt_inj.mp
  have h1 := Int32.le_toInt x
  have h2 := Int32.toInt_lt x
  rw [Int32.toInt_toInt64, lz_toInt (by omega) (by omega)]
theorem i32_r (x : Int32) : -2147483648 ≤ x.toInt ∧ x.toInt < 2147483648 := by
  have h1 := Int32.le_toInt x
  have h2 := Int32.toInt_lt x
  omega
/-- all is as before but for some arrays and some int fields (longs are free) -/
def exG (A : List Nat) (F : List (Nat × Nat)) (u v : gx_S) : Prop := (∀ o k, (o, k) ∉ F → gx_i v o k = gx_i u o k) ∧ (∀ o k, gx_r v o k = gx_r u o k) ∧ ∀ a, a ∉ A → gx_a v a = gx_a u a
theorem exG_rf (A : List Nat) (F : List (Nat × Nat)) (u : gx_S) : exG A F u u := ⟨fun _ _ _ => rfl, fun _ _ => rfl, fun _ _ => rfl⟩
theorem exG_tr {A : List Nat} {F : List (Nat × Nat)} {u v w : gx_S} (h : exG A F u v) (h2 : exG A F v w) : exG A F u w := ⟨fun o k ho => (h2.1 o k ho).trans (h.1 o k ho), fun o k => (h2.2.1 o k).trans (h.2.1 o k), fun a ha => (h2.2.2 a ha).trans (h.2.2 a ha)⟩
theorem exG_wk {A B : List Nat} {F G : List (Nat × Nat)} {u v : gx_S} (h : exG A F u v) (hA : ∀ a, a ∈ A → a ∈ B) (hF : ∀ a, a ∈ F → a ∈ G) : exG B G u v := ⟨fun o k ho => h.1 o k (fun e => ho (hF _ e)), h.2.1, fun a ha => h.2.2 a (fun e => ha (hA a e))⟩
theorem exG_pa {A : List Nat} {F : List (Nat × Nat)} {a : Nat} (u : gx_S) (f : Nat → Int32) (h : a ∈ A) : exG A F u (gx_pa u a f) := ⟨fun _ _ _ => rfl, fun _ _ => rfl, fun b hb => by rw [gx_a_pa, if_neg (fun e => hb (by rw [e]; exact h))]⟩
theorem exG_pi {A : List Nat} {F : List (Nat × Nat)} {o k : Nat} (u : gx_S) (x : Int32) (h : (o, k) ∈ F) : exG A F u (gx_pi u o k x) := ⟨fun p q hp => by rw [gx_i_pi, if_neg (fun e => hp (by rw [e.1, e.2]; exact h))], fun _ _ => rfl, fun _ _ => rfl⟩
theorem exG_pl {A : List Nat} {F : List (Nat × Nat)} {o k : Nat} (u : gx_S) (x : Int64) : exG A F u (gx_pl u o k x) := ⟨fun _ _ _ => rfl, fun _ _ => rfl, fun _ _ => rfl⟩
/-- where the model's references go; t: the Tags told last (23 or 25) -/
def rMl (t : Nat) : List (List Nat) := [[28, 0, 0, 29, 30, 31, 32, 33, 34, 35, 36, 0, 0, 0, 0, 22, t, 48 - t, 46, 27, 52, 53, 54, 55, 56, 57, 58, 59], [37], [24, 39, 40, 41], [38], [26, 43, 44, 45], [42], [47, 48, 49, 50, 51]]
def rM (t o k : Nat) : Nat := ((rMl t).getD (o - 21) []).getD k 0
def mfix (t : Nat) (u : gx_S) : Prop := ∀ o k, 21 ≤ o → o < 28 → gx_r u o k = rM t o k
theorem exG_mfix {A : List Nat} {F : List (Nat × Nat)} {u v : gx_S} {t : Nat} (h : exG A F u v) (hf : mfix t u) : mfix t v := fun o k h1 h2 => (h.2.1 o k).trans (hf o k h1 h2)
-- tape
def mt (u : gx_S) (T : List Nat) : Prop := gx_i u 21 1 = nI T.length ∧ T.length ≤ 2000 ∧ rdb T (gx_a u 28)
theorem isA28 : gx_isA 28 .byte := ⟨by decide, rfl⟩
theorem in28 {i : Nat} (h : i < 2000) : vp_in (nI i) (gx_len 28) := vp_in_nI (N := 2000) h (by omega)
theorem isO21 : gx_isO 21 9 := isO_x 21 9 (by decide)
theorem shr8 (x : Int32) (k : Nat) (hk : k = 24 ∨ k = 16 ∨ k = 8 ∨ k = 0) : (x >>> (nI k &&& 31)).toInt8.toInt32 = sb_b (x.toBitVec.toNat / 2 ^ k % 256) := by
  rw [byte_of]
  congr 1
  have h1 := pk_shr x (nI k &&& 31) k (sl_ k (by omega))
  rw [Int.shiftRight_eq_div_pow] at h1
  have h2 : ∀ y : Int32, (y.toBitVec.toNat : Int) % 256 = y.toInt % 256 := by
    intro y
    have := BitVec.toInt_eq_toNat_cond y.toBitVec
    have e : y.toInt = y.toBitVec.toInt := rfl
    rw [e, this]
    split <;> omega
  have h3 := h2 (x >>> (nI k &&& 31))
  have hx := i32_lt x
  have h4 : x.toInt = if 2 * x.toBitVec.toNat < 2 ^ 32 then (x.toBitVec.toNat : Int) else (x.toBitVec.toNat : Int) - 2 ^ 32 := by
    have := BitVec.toInt_eq_toNat_cond x.toBitVec
    have e : x.toInt = x.toBitVec.toInt := rfl
    rw [e, this]
    split <;> rfl
  rcases hk with rfl | rfl | rfl | rfl
  all_goals
    rw [h1, h4] at h3
    simp only [Nat.reducePow] at h3 ⊢
    split at h3 <;> omega
def S_X10_four (u : gx_S) (v0 : Nat) (v1 : Int32) (post : gx_S → Prop) : Prop := v0 = 21 ∧ ∃ (t : Nat) (T : List Nat), mfix t u ∧ mt u T ∧ T.length + 4 ≤ 2000 ∧ ∀ v, exG [28] [(21, 1)] u v → mt v (T ++ wB v1) → post v
theorem st_X10_four {E : gx_E} (X : gx_X E cX10_four 3 RX10 none) (hd : 0 ≤ ex_d E) {post : gx_S → Prop} (hQ : ex_Q E = va_Qv post (gx_B (ex_Z E)) (gx_A (ex_Z E))) {u : gx_S} {t k : Nat} {T : List Nat} {x : Int32} (hf : mfix t u) (hT : mt u T) (hl : T.length < 2000) (hk : k = 24 ∨ k = 16 ∨ k = 8 ∨ k = 0)
    (h : ∀ v, exG [28] [(21, 1)] u v → mt v (T ++ [x.toBitVec.toNat / 2 ^ k % 256]) → J_X10_four_3 E 21 x (nI k + (-8)) v) : J_X10_four_3 E 21 x (nI k) u := by
  refine w_X10_four_3 X hd hQ ⟨fun q => absurd q (nI_pos (by omega)), fun _ => ?_⟩
  rw [show gx_r u 21 0 = 28 from hf 21 0 (by decide) (by decide), hT.1, nI_clamp (by omega)]
  refine ⟨isO21, isA28, in28 hl, ?_⟩
  rintro u4 rfl u5 rfl x6 rfl
  have hc : x.toBitVec.toNat / 2 ^ k % 256 < 256 := Nat.mod_lt _ (by omega)
  refine h _ (exG_tr (exG_pa _ _ (by simp)) (exG_pi _ _ (by simp))) ⟨?_, by rw [len_push]; omega, ?_⟩
  · rw [gx_i_pi, if_pos ⟨rfl, rfl⟩, gx_i_pa, hT.1, nI_1, len_push]
  · rw [gx_a_pi, gx_a_pa, if_pos rfl, shr8 x k hk, byte_sb hc]
    exact rdb_push hT.2.2 hc rfl
theorem w_X10_four {E : gx_E} (X : gx_X E cX10_four 3 RX10 none) (hd : 0 ≤ ex_d E) {post : gx_S → Prop} (hQ : ex_Q E = va_Qv post (gx_B (ex_Z E)) (gx_A (ex_Z E))) {u : gx_S} {v0 : Nat} {v1 : Int32} (h : S_X10_four u v0 v1 post) : gx_Wc E 3 0 [(0, .ref (ex_ad E v0)), (1, .int v1)] [] u := by
  obtain ⟨rfl, t, T, hf, hT, hl, hp⟩ := h
  refine w_X10_four_0 X hd hQ ?_
  refine st_X10_four X hd hQ (k := 24) hf hT (by omega) (by omega) (fun v1 x1 m1 => ?_)
  refine st_X10_four X hd hQ (k := 16) (exG_mfix x1 hf) m1 (by simp; omega) (by omega) (fun v2 x2 m2 => ?_)
  refine st_X10_four X hd hQ (k := 8) (exG_mfix x2 (exG_mfix x1 hf)) m2 (by simp; omega) (by omega) (fun v3 x3 m3 => ?_)
  refine st_X10_four X hd hQ (k := 0) (exG_mfix x3 (exG_mfix x2 (exG_mfix x1 hf))) m3 (by simp; omega) (by omega) (fun v4 x4 m4 => ?_)
  refine w_X10_four_3 X hd hQ ⟨fun _ => hp v4 (exG_tr x1 (exG_tr x2 (exG_tr x3 x4))) ?_, fun q => absurd (show nI 0 + (-8) < 0 by decide) q⟩
  simpa [wB] using m4
theorem c_X10_four {l : Launch} {Z : gx_Z} {u : gx_S} {v0 : Nat} {v1 : Int32} {post : gx_S → Prop} (h : S_X10_four u v0 v1 post) : Met l yX10_four (Cond.code yX10_four cX10_four 3 none :: gx_TB) (gx_rm 0) (gx_Pre Z u [.ref (Z.2.1 v0), .int v1]) (va_Qv post (gx_B Z) (gx_A Z)) 0 0 (gx_A Z) := by
  refine gx_met (by decide +kernel) (Nat.le_of_ble_eq_true rfl) ?_
  intro E X hZ hQ hD hL
  subst hZ
  exact w_X10_four X (Nat.le_of_eq hD.symm) hQ h
-- the end of a line
def leF (L : List Nat) : Nat → Nat → Nat
  | 0, _ => L.length
  | k + 1, i => if ch L i = 10 then i + 1 else leF L k (i + 1)
def le_ (L : List Nat) (i : Nat) : Nat := leF L (L.length - i) i
def S_X10_lineEnd (u : gx_S) (v0 : Nat) (v1 v2 : Int32) (post : Int32 → gx_S → Prop) : Prop := ∃ (L : List Nat) (i : Nat), gx_isR v0 .byte ∧ L.length ≤ gx_len v0 ∧ L.length < 2 ^ 20 ∧ rdb L (gx_a u v0) ∧ i ≤ L.length ∧ v1 = nI i ∧ v2 = nI L.length ∧ post (nI (le_ L i)) u
theorem lp_X10_lineEnd {E : gx_E} (X : gx_X E cX10_lineEnd 4 RX10 (some .int)) (hd : 1 ≤ ex_d E) {post : Int32 → gx_S → Prop} (hQ : ex_Q E = va_Qi post (gx_B (ex_Z E)) (gx_A (ex_Z E))) {v0 : Nat} {v1 : Int32} {L : List Nat} {u : gx_S} (ha : gx_isR v0 .byte) (hl : L.length ≤ gx_len v0) (hl2 : L.length < 2 ^ 20) (hL : rdb L (gx_a u v0)) :
    ∀ (n i : Nat), L.length - i = n → i ≤ L.length → post (nI (leF L n i)) u → J_X10_lineEnd_2 E v0 v1 (nI L.length) (nI i) u := by
  intro n
  induction n with
  | zero =>
    intro i hn hi h
    refine w_X10_lineEnd_2 X hd hQ ⟨fun _ => ?_, fun q => absurd (nI_le (by omega) (by omega)) q⟩
    rw [nI_1, if_neg (nI_nlt (by omega) (by omega))]
    exact h
  | succ n ih =>
    intro i hn hi h
    have hc := ch_lt hL.1 (j := i) (by omega)
    unfold leF at h
    refine w_X10_lineEnd_2 X hd hQ ⟨fun q => absurd q (nI_ge (by omega) (by omega)), fun _ => ⟨ha, vp_in_nI (by omega) ?_, ?_⟩⟩
    · have : gx_len v0 < 2 ^ 31 := by
        have h2 : ∀ a, a < gx_N → gx_len a < 2 ^ 31 := by decide +kernel
        exact h2 v0 ha.1
      exact this
    · rw [nI_clamp (by omega), hL.2 i (by omega), show (10 : Int32) = nI 10 from rfl, sb_eq hc (by omega)]
      refine ⟨fun q => ?_, fun q => ?_⟩
      · rw [if_pos q] at h
        rw [nI_1]
        by_cases e : i + 1 < L.length
        · rw [if_pos (nI_lt e (by omega))]; exact h
        · rw [if_neg (nI_nlt (by omega) (by omega)), show L.length = i + 1 by omega]; exact h
      · rintro x3 rfl
        rw [nI_1]
        rw [if_neg q] at h
        exact ih (i + 1) (by omega) (by omega) h
theorem w_X10_lineEnd {E : gx_E} (X : gx_X E cX10_lineEnd 4 RX10 (some .int)) (hd : 1 ≤ ex_d E) {post : Int32 → gx_S → Prop} (hQ : ex_Q E = va_Qi post (gx_B (ex_Z E)) (gx_A (ex_Z E))) {u : gx_S} {v0 : Nat} {v1 v2 : Int32} (h : S_X10_lineEnd u v0 v1 v2 post) : gx_Wc E 4 0 [(0, .ref (ex_ad E v0)), (1, .int v1), (2, .int v2)] [] u := by
  obtain ⟨L, i, ha, hl, hl2, hL, hi, rfl, rfl, h⟩ := h
  exact w_X10_lineEnd_0 X hd hQ (lp_X10_lineEnd X hd hQ ha hl hl2 hL (L.length - i) i rfl hi h)
theorem c_X10_lineEnd {l : Launch} {Z : gx_Z} {u : gx_S} {v0 : Nat} {v1 : Int32} {v2 : Int32} {post : Int32 → gx_S → Prop} (h : S_X10_lineEnd u v0 v1 v2 post) : Met l yX10_lineEnd (Cond.code yX10_lineEnd cX10_lineEnd 4 (some .int) :: gx_TB) (gx_rm 1) (gx_Pre Z u [.ref (Z.2.1 v0), .int v1, .int v2]) (va_Qi post (gx_B Z) (gx_A Z)) 0 0 (gx_A Z) := by
  refine gx_met (by decide +kernel) (Nat.le_of_ble_eq_true rfl) ?_
  intro E X hZ hQ hD hL
  subst hZ
  exact w_X10_lineEnd X (Nat.le_of_eq hD.symm) hQ h

-- PlainSeal.isWhite(I)Z
theorem dX6_isWhite_0 : decode cX6_isWhite 0 = .ok (.iload_n 0, 1) := by decide +kernel
theorem dX6_isWhite_1 : decode cX6_isWhite 1 = .ok (.bipush 32, 2) := by decide +kernel
theorem dX6_isWhite_3 : decode cX6_isWhite 3 = .ok (.if_icmp .eq 9, 3) := by decide +kernel
theorem dX6_isWhite_6 : decode cX6_isWhite 6 = .ok (.iload_n 0, 1) := by decide +kernel
theorem dX6_isWhite_7 : decode cX6_isWhite 7 = .ok (.bipush 9, 2) := by decide +kernel
theorem dX6_isWhite_9 : decode cX6_isWhite 9 = .ok (.if_icmp .ne 7, 3) := by decide +kernel
theorem dX6_isWhite_12 : decode cX6_isWhite 12 = .ok (.iconst 1, 1) := by decide +kernel
theorem dX6_isWhite_13 : decode cX6_isWhite 13 = .ok (.goto 4, 3) := by decide +kernel
theorem dX6_isWhite_16 : decode cX6_isWhite 16 = .ok (.iconst 0, 1) := by decide +kernel
theorem dX6_isWhite_17 : decode cX6_isWhite 17 = .ok (.ireturn, 1) := by decide +kernel
theorem hyX6_isWhite : yX6_isWhite.cls ≠ "java/lang/invoke/MethodHandle" ∧ yX6_isWhite.cls ≠ "java/lang/invoke/VarHandle" ∧ (parseMethodDescriptor yX6_isWhite.desc).map (fun d => d.parameters.length) = some 1 := by decide +kernel
def S_X6_isWhite (u : gx_S) (v0 : Int32) (post : Int32 → gx_S → Prop) : Prop := ((v0 = (32 : Int32) → post (1 : Int32) u) ∧ (¬ v0 = (32 : Int32) → ((¬ v0 = (9 : Int32) → post (0 : Int32) u) ∧ (v0 = (9 : Int32) → post (1 : Int32) u))))
set_option maxHeartbeats 4000000 in
set_option maxRecDepth 100000 in
theorem w_X6_isWhite {E : gx_E} (X : gx_X E cX6_isWhite 1 RX6 (some .boolean)) (hd : 0 ≤ ex_d E) {post : Int32 → gx_S → Prop} (hQ : ex_Q E = va_Qi post (gx_B (ex_Z E)) (gx_A (ex_Z E))) {u : gx_S} {v0 : Int32} (h : S_X6_isWhite u v0 post) : gx_Wc E 1 0 [(0, .int v0)] [] u := by
  unfold S_X6_isWhite at h
  refine gx_iload_n X (j := 0) dX6_isWhite_0 rfl rfl ?_
  refine gx_bipush X (v := 32) dX6_isWhite_1 (by decide) ?_
  refine gx_icmp_eq X (tgt := 12) dX6_isWhite_3 (by decide) (fun c2 => ?_) (fun c2 => ?_)
  · replace h := h.1 c2
    refine gx_iconst X (v := 1) dX6_isWhite_12 (by decide) ?_
    refine gx_goto X (tgt := 17) dX6_isWhite_13 (by decide) ?_
    exact gx_zret X hQ rfl h dX6_isWhite_17
  · replace h := h.2 c2
    refine gx_iload_n X (j := 0) dX6_isWhite_6 rfl rfl ?_
    refine gx_bipush X (v := 9) dX6_isWhite_7 (by decide) ?_
    refine gx_icmp_ne X (tgt := 16) dX6_isWhite_9 (by decide) (fun c1 => ?_) (fun c1 => ?_)
    · replace h := h.1 c1
      refine gx_iconst X (v := 0) dX6_isWhite_16 (by decide) ?_
      exact gx_zret X hQ rfl h dX6_isWhite_17
    · replace h := h.2 c1
      refine gx_iconst X (v := 1) dX6_isWhite_12 (by decide) ?_
      refine gx_goto X (tgt := 17) dX6_isWhite_13 (by decide) ?_
      exact gx_zret X hQ rfl h dX6_isWhite_17
theorem c_X6_isWhite {l : Launch} {Z : gx_Z} {u : gx_S} {v0 : Int32} {post : Int32 → gx_S → Prop} (h : S_X6_isWhite u v0 post) : Met l yX6_isWhite (Cond.code yX6_isWhite cX6_isWhite 1 (some .boolean) :: gx_TB) (gx_rm 0) (gx_Pre Z u [.int v0]) (va_Qi post (gx_B Z) (gx_A Z)) 0 0 (gx_A Z) := by
  refine gx_met (by decide +kernel) (Nat.le_of_ble_eq_true rfl) ?_
  intro E X hZ hQ hD hL
  subst hZ
  exact w_X6_isWhite X (Nat.le_of_eq hD.symm) hQ h
-- PlainSeal.isSmallLetter(I)Z
theorem dX6_isSmallLetter_0 : decode cX6_isSmallLetter 0 = .ok (.iload_n 0, 1) := by decide +kernel
theorem dX6_isSmallLetter_1 : decode cX6_isSmallLetter 1 = .ok (.bipush 97, 2) := by decide +kernel
theorem dX6_isSmallLetter_3 : decode cX6_isSmallLetter 3 = .ok (.if_icmp .lt 13, 3) := by decide +kernel
theorem dX6_isSmallLetter_6 : decode cX6_isSmallLetter 6 = .ok (.iload_n 0, 1) := by decide +kernel
theorem dX6_isSmallLetter_7 : decode cX6_isSmallLetter 7 = .ok (.bipush 122, 2) := by decide +kernel
theorem dX6_isSmallLetter_9 : decode cX6_isSmallLetter 9 = .ok (.if_icmp .gt 7, 3) := by decide +kernel
theorem dX6_isSmallLetter_12 : decode cX6_isSmallLetter 12 = .ok (.iconst 1, 1) := by decide +kernel
theorem dX6_isSmallLetter_13 : decode cX6_isSmallLetter 13 = .ok (.goto 4, 3) := by decide +kernel
theorem dX6_isSmallLetter_16 : decode cX6_isSmallLetter 16 = .ok (.iconst 0, 1) := by decide +kernel
theorem dX6_isSmallLetter_17 : decode cX6_isSmallLetter 17 = .ok (.ireturn, 1) := by decide +kernel
theorem hyX6_isSmallLetter : yX6_isSmallLetter.cls ≠ "java/lang/invoke/MethodHandle" ∧ yX6_isSmallLetter.cls ≠ "java/lang/invoke/VarHandle" ∧ (parseMethodDescriptor yX6_isSmallLetter.desc).map (fun d => d.parameters.length) = some 1 := by decide +kernel
def S_X6_isSmallLetter (u : gx_S) (v0 : Int32) (post : Int32 → gx_S → Prop) : Prop := ((v0 < (97 : Int32) → post (0 : Int32) u) ∧ (¬ v0 < (97 : Int32) → (((122 : Int32) < v0 → post (0 : Int32) u) ∧ (¬ (122 : Int32) < v0 → post (1 : Int32) u))))
set_option maxHeartbeats 4000000 in
set_option maxRecDepth 100000 in
theorem w_X6_isSmallLetter {E : gx_E} (X : gx_X E cX6_isSmallLetter 1 RX6 (some .boolean)) (hd : 0 ≤ ex_d E) {post : Int32 → gx_S → Prop} (hQ : ex_Q E = va_Qi post (gx_B (ex_Z E)) (gx_A (ex_Z E))) {u : gx_S} {v0 : Int32} (h : S_X6_isSmallLetter u v0 post) : gx_Wc E 1 0 [(0, .int v0)] [] u := by
  unfold S_X6_isSmallLetter at h
  refine gx_iload_n X (j := 0) dX6_isSmallLetter_0 rfl rfl ?_
  refine gx_bipush X (v := 97) dX6_isSmallLetter_1 (by decide) ?_
  refine gx_icmp_lt X (tgt := 16) dX6_isSmallLetter_3 (by decide) (fun c2 => ?_) (fun c2 => ?_)
  · replace h := h.1 c2
    refine gx_iconst X (v := 0) dX6_isSmallLetter_16 (by decide) ?_
    exact gx_zret X hQ rfl h dX6_isSmallLetter_17
  · replace h := h.2 c2
    refine gx_iload_n X (j := 0) dX6_isSmallLetter_6 rfl rfl ?_
    refine gx_bipush X (v := 122) dX6_isSmallLetter_7 (by decide) ?_
    refine gx_icmp_gt X (tgt := 16) dX6_isSmallLetter_9 (by decide) (fun c1 => ?_) (fun c1 => ?_)
    · replace h := h.1 c1
      refine gx_iconst X (v := 0) dX6_isSmallLetter_16 (by decide) ?_
      exact gx_zret X hQ rfl h dX6_isSmallLetter_17
    · replace h := h.2 c1
      refine gx_iconst X (v := 1) dX6_isSmallLetter_12 (by decide) ?_
      refine gx_goto X (tgt := 17) dX6_isSmallLetter_13 (by decide) ?_
      exact gx_zret X hQ rfl h dX6_isSmallLetter_17
theorem c_X6_isSmallLetter {l : Launch} {Z : gx_Z} {u : gx_S} {v0 : Int32} {post : Int32 → gx_S → Prop} (h : S_X6_isSmallLetter u v0 post) : Met l yX6_isSmallLetter (Cond.code yX6_isSmallLetter cX6_isSmallLetter 1 (some .boolean) :: gx_TB) (gx_rm 0) (gx_Pre Z u [.int v0]) (va_Qi post (gx_B Z) (gx_A Z)) 0 0 (gx_A Z) := by
  refine gx_met (by decide +kernel) (Nat.le_of_ble_eq_true rfl) ?_
  intro E X hZ hQ hD hL
  subst hZ
  exact w_X6_isSmallLetter X (Nat.le_of_eq hD.symm) hQ h
-- PlainSeal.isGreatLetter(I)Z
theorem dX6_isGreatLetter_0 : decode cX6_isGreatLetter 0 = .ok (.iload_n 0, 1) := by decide +kernel
theorem dX6_isGreatLetter_1 : decode cX6_isGreatLetter 1 = .ok (.bipush 65, 2) := by decide +kernel
theorem dX6_isGreatLetter_3 : decode cX6_isGreatLetter 3 = .ok (.if_icmp .lt 13, 3) := by decide +kernel
theorem dX6_isGreatLetter_6 : decode cX6_isGreatLetter 6 = .ok (.iload_n 0, 1) := by decide +kernel
theorem dX6_isGreatLetter_7 : decode cX6_isGreatLetter 7 = .ok (.bipush 90, 2) := by decide +kernel
theorem dX6_isGreatLetter_9 : decode cX6_isGreatLetter 9 = .ok (.if_icmp .gt 7, 3) := by decide +kernel
theorem dX6_isGreatLetter_12 : decode cX6_isGreatLetter 12 = .ok (.iconst 1, 1) := by decide +kernel
theorem dX6_isGreatLetter_13 : decode cX6_isGreatLetter 13 = .ok (.goto 4, 3) := by decide +kernel
theorem dX6_isGreatLetter_16 : decode cX6_isGreatLetter 16 = .ok (.iconst 0, 1) := by decide +kernel
theorem dX6_isGreatLetter_17 : decode cX6_isGreatLetter 17 = .ok (.ireturn, 1) := by decide +kernel
theorem hyX6_isGreatLetter : yX6_isGreatLetter.cls ≠ "java/lang/invoke/MethodHandle" ∧ yX6_isGreatLetter.cls ≠ "java/lang/invoke/VarHandle" ∧ (parseMethodDescriptor yX6_isGreatLetter.desc).map (fun d => d.parameters.length) = some 1 := by decide +kernel
def S_X6_isGreatLetter (u : gx_S) (v0 : Int32) (post : Int32 → gx_S → Prop) : Prop := ((v0 < (65 : Int32) → post (0 : Int32) u) ∧ (¬ v0 < (65 : Int32) → (((90 : Int32) < v0 → post (0 : Int32) u) ∧ (¬ (90 : Int32) < v0 → post (1 : Int32) u))))
set_option maxHeartbeats 4000000 in
set_option maxRecDepth 100000 in
theorem w_X6_isGreatLetter {E : gx_E} (X : gx_X E cX6_isGreatLetter 1 RX6 (some .boolean)) (hd : 0 ≤ ex_d E) {post : Int32 → gx_S → Prop} (hQ : ex_Q E = va_Qi post (gx_B (ex_Z E)) (gx_A (ex_Z E))) {u : gx_S} {v0 : Int32} (h : S_X6_isGreatLetter u v0 post) : gx_Wc E 1 0 [(0, .int v0)] [] u := by
  unfold S_X6_isGreatLetter at h
  refine gx_iload_n X (j := 0) dX6_isGreatLetter_0 rfl rfl ?_
  refine gx_bipush X (v := 65) dX6_isGreatLetter_1 (by decide) ?_
  refine gx_icmp_lt X (tgt := 16) dX6_isGreatLetter_3 (by decide) (fun c2 => ?_) (fun c2 => ?_)
  · replace h := h.1 c2
    refine gx_iconst X (v := 0) dX6_isGreatLetter_16 (by decide) ?_
    exact gx_zret X hQ rfl h dX6_isGreatLetter_17
  · replace h := h.2 c2
    refine gx_iload_n X (j := 0) dX6_isGreatLetter_6 rfl rfl ?_
    refine gx_bipush X (v := 90) dX6_isGreatLetter_7 (by decide) ?_
    refine gx_icmp_gt X (tgt := 16) dX6_isGreatLetter_9 (by decide) (fun c1 => ?_) (fun c1 => ?_)
    · replace h := h.1 c1
      refine gx_iconst X (v := 0) dX6_isGreatLetter_16 (by decide) ?_
      exact gx_zret X hQ rfl h dX6_isGreatLetter_17
    · replace h := h.2 c1
      refine gx_iconst X (v := 1) dX6_isGreatLetter_12 (by decide) ?_
      refine gx_goto X (tgt := 17) dX6_isGreatLetter_13 (by decide) ?_
      exact gx_zret X hQ rfl h dX6_isGreatLetter_17
theorem c_X6_isGreatLetter {l : Launch} {Z : gx_Z} {u : gx_S} {v0 : Int32} {post : Int32 → gx_S → Prop} (h : S_X6_isGreatLetter u v0 post) : Met l yX6_isGreatLetter (Cond.code yX6_isGreatLetter cX6_isGreatLetter 1 (some .boolean) :: gx_TB) (gx_rm 0) (gx_Pre Z u [.int v0]) (va_Qi post (gx_B Z) (gx_A Z)) 0 0 (gx_A Z) := by
  refine gx_met (by decide +kernel) (Nat.le_of_ble_eq_true rfl) ?_
  intro E X hZ hQ hD hL
  subst hZ
  exact w_X6_isGreatLetter X (Nat.le_of_eq hD.symm) hQ h
-- PlainSeal.isDigit(I)Z
theorem dX6_isDigit_0 : decode cX6_isDigit 0 = .ok (.iload_n 0, 1) := by decide +kernel
theorem dX6_isDigit_1 : decode cX6_isDigit 1 = .ok (.bipush 48, 2) := by decide +kernel
theorem dX6_isDigit_3 : decode cX6_isDigit 3 = .ok (.if_icmp .lt 13, 3) := by decide +kernel
theorem dX6_isDigit_6 : decode cX6_isDigit 6 = .ok (.iload_n 0, 1) := by decide +kernel
theorem dX6_isDigit_7 : decode cX6_isDigit 7 = .ok (.bipush 57, 2) := by decide +kernel
theorem dX6_isDigit_9 : decode cX6_isDigit 9 = .ok (.if_icmp .gt 7, 3) := by decide +kernel
theorem dX6_isDigit_12 : decode cX6_isDigit 12 = .ok (.iconst 1, 1) := by decide +kernel
theorem dX6_isDigit_13 : decode cX6_isDigit 13 = .ok (.goto 4, 3) := by decide +kernel
theorem dX6_isDigit_16 : decode cX6_isDigit 16 = .ok (.iconst 0, 1) := by decide +kernel
theorem dX6_isDigit_17 : decode cX6_isDigit 17 = .ok (.ireturn, 1) := by decide +kernel
theorem hyX6_isDigit : yX6_isDigit.cls ≠ "java/lang/invoke/MethodHandle" ∧ yX6_isDigit.cls ≠ "java/lang/invoke/VarHandle" ∧ (parseMethodDescriptor yX6_isDigit.desc).map (fun d => d.parameters.length) = some 1 := by decide +kernel
def S_X6_isDigit (u : gx_S) (v0 : Int32) (post : Int32 → gx_S → Prop) : Prop := ((v0 < (48 : Int32) → post (0 : Int32) u) ∧ (¬ v0 < (48 : Int32) → (((57 : Int32) < v0 → post (0 : Int32) u) ∧ (¬ (57 : Int32) < v0 → post (1 : Int32) u))))
set_option maxHeartbeats 4000000 in
set_option maxRecDepth 100000 in
theorem w_X6_isDigit {E : gx_E} (X : gx_X E cX6_isDigit 1 RX6 (some .boolean)) (hd : 0 ≤ ex_d E) {post : Int32 → gx_S → Prop} (hQ : ex_Q E = va_Qi post (gx_B (ex_Z E)) (gx_A (ex_Z E))) {u : gx_S} {v0 : Int32} (h : S_X6_isDigit u v0 post) : gx_Wc E 1 0 [(0, .int v0)] [] u := by
  unfold S_X6_isDigit at h
  refine gx_iload_n X (j := 0) dX6_isDigit_0 rfl rfl ?_
  refine gx_bipush X (v := 48) dX6_isDigit_1 (by decide) ?_
  refine gx_icmp_lt X (tgt := 16) dX6_isDigit_3 (by decide) (fun c2 => ?_) (fun c2 => ?_)
  · replace h := h.1 c2
    refine gx_iconst X (v := 0) dX6_isDigit_16 (by decide) ?_
    exact gx_zret X hQ rfl h dX6_isDigit_17
  · replace h := h.2 c2
    refine gx_iload_n X (j := 0) dX6_isDigit_6 rfl rfl ?_
    refine gx_bipush X (v := 57) dX6_isDigit_7 (by decide) ?_
    refine gx_icmp_gt X (tgt := 16) dX6_isDigit_9 (by decide) (fun c1 => ?_) (fun c1 => ?_)
    · replace h := h.1 c1
      refine gx_iconst X (v := 0) dX6_isDigit_16 (by decide) ?_
      exact gx_zret X hQ rfl h dX6_isDigit_17
    · replace h := h.2 c1
      refine gx_iconst X (v := 1) dX6_isDigit_12 (by decide) ?_
      refine gx_goto X (tgt := 17) dX6_isDigit_13 (by decide) ?_
      exact gx_zret X hQ rfl h dX6_isDigit_17
theorem c_X6_isDigit {l : Launch} {Z : gx_Z} {u : gx_S} {v0 : Int32} {post : Int32 → gx_S → Prop} (h : S_X6_isDigit u v0 post) : Met l yX6_isDigit (Cond.code yX6_isDigit cX6_isDigit 1 (some .boolean) :: gx_TB) (gx_rm 0) (gx_Pre Z u [.int v0]) (va_Qi post (gx_B Z) (gx_A Z)) 0 0 (gx_A Z) := by
  refine gx_met (by decide +kernel) (Nat.le_of_ble_eq_true rfl) ?_
  intro E X hZ hQ hD hL
  subst hZ
  exact w_X6_isDigit X (Nat.le_of_eq hD.symm) hQ h
-- PlainSeal.small(I)I
theorem dX6_small_0 : decode cX6_small 0 = .ok (.iload_n 0, 1) := by decide +kernel
theorem dX6_small_1 : decode cX6_small 1 = .ok (.invokestatic 122, 3) := by decide +kernel
theorem dX6_small_4 : decode cX6_small 4 = .ok (.ifCond .eq 13, 3) := by decide +kernel
theorem dX6_small_7 : decode cX6_small 7 = .ok (.iload_n 0, 1) := by decide +kernel
theorem dX6_small_8 : decode cX6_small 8 = .ok (.bipush 65, 2) := by decide +kernel
theorem dX6_small_10 : decode cX6_small 10 = .ok (.isub, 1) := by decide +kernel
theorem dX6_small_11 : decode cX6_small 11 = .ok (.bipush 97, 2) := by decide +kernel
theorem dX6_small_13 : decode cX6_small 13 = .ok (.iadd, 1) := by decide +kernel
theorem dX6_small_14 : decode cX6_small 14 = .ok (.goto 4, 3) := by decide +kernel
theorem dX6_small_17 : decode cX6_small 17 = .ok (.iload_n 0, 1) := by decide +kernel
theorem dX6_small_18 : decode cX6_small 18 = .ok (.ireturn, 1) := by decide +kernel
theorem hyX6_small : yX6_small.cls ≠ "java/lang/invoke/MethodHandle" ∧ yX6_small.cls ≠ "java/lang/invoke/VarHandle" ∧ (parseMethodDescriptor yX6_small.desc).map (fun d => d.parameters.length) = some 1 := by decide +kernel
def S_X6_small (u : gx_S) (v0 : Int32) (post : Int32 → gx_S → Prop) : Prop := (S_X6_isGreatLetter u v0 (fun (r2 : Int32) (u1 : gx_S) => ((r2 = 0 → post v0 u1) ∧ (¬ r2 = 0 → post ((v0 - (65 : Int32)) + (97 : Int32)) u1))))
set_option maxHeartbeats 4000000 in
set_option maxRecDepth 100000 in
theorem w_X6_small {E : gx_E} (X : gx_X E cX6_small 1 RX6 (some .int)) (hd : 1 ≤ ex_d E) {post : Int32 → gx_S → Prop} (hQ : ex_Q E = va_Qi post (gx_B (ex_Z E)) (gx_A (ex_Z E))) {u : gx_S} {v0 : Int32} (h : S_X6_small u v0 post) : gx_Wc E 1 0 [(0, .int v0)] [] u := by
  unfold S_X6_small at h
  refine gx_iload_n X (j := 0) dX6_small_0 rfl rfl ?_
  refine gx_ki (gx_rS X (c_X6_isGreatLetter h) (Nat.le_trans (by decide) hd) (Nat.le_trans (by decide) (Nat.mul_le_mul_left 40 hd)) mw_234 mw_176 mw_1 mw_177 hyX6_isGreatLetter (As := [.int v0]) (rest := []) rfl rfl (Nat.le_of_ble_eq_true rfl) dX6_small_1) (fun r2 u1 h => ?_)
  refine gx_if_eq X (tgt := 17) dX6_small_4 (by decide) (fun c3 => ?_) (fun c3 => ?_)
  · replace h := h.1 c3
    refine gx_iload_n X (j := 0) dX6_small_17 rfl rfl ?_
    exact gx_iret X hQ h dX6_small_18
  · replace h := h.2 c3
    refine gx_iload_n X (j := 0) dX6_small_7 rfl rfl ?_
    refine gx_bipush X (v := 65) dX6_small_8 (by decide) ?_
    refine gx_isub X dX6_small_10 ?_
    refine gx_bipush X (v := 97) dX6_small_11 (by decide) ?_
    refine gx_iadd X dX6_small_13 ?_
    refine gx_goto X (tgt := 18) dX6_small_14 (by decide) ?_
    exact gx_iret X hQ h dX6_small_18
theorem c_X6_small {l : Launch} {Z : gx_Z} {u : gx_S} {v0 : Int32} {post : Int32 → gx_S → Prop} (h : S_X6_small u v0 post) : Met l yX6_small (Cond.code yX6_small cX6_small 1 (some .int) :: gx_TB) (gx_rm 1) (gx_Pre Z u [.int v0]) (va_Qi post (gx_B Z) (gx_A Z)) 0 0 (gx_A Z) := by
  refine gx_met (by decide +kernel) (Nat.le_of_ble_eq_true rfl) ?_
  intro E X hZ hQ hD hL
  subst hZ
  exact w_X6_small X (Nat.le_of_eq hD.symm) hQ h
-- PlainSeal$Bytes.size()I
theorem dX0_size_0 : decode cX0_size 0 = .ok (.aload_n 0, 1) := by decide +kernel
theorem dX0_size_1 : decode cX0_size 1 = .ok (.getfield 15, 3) := by decide +kernel
theorem dX0_size_4 : decode cX0_size 4 = .ok (.ireturn, 1) := by decide +kernel
theorem hyX0_size : yX0_size.cls ≠ "java/lang/invoke/MethodHandle" ∧ yX0_size.cls ≠ "java/lang/invoke/VarHandle" ∧ (parseMethodDescriptor yX0_size.desc).map (fun d => d.parameters.length) = some 0 := by decide +kernel
def S_X0_size (u : gx_S) (v0 : Nat) (post : Int32 → gx_S → Prop) : Prop := (gx_isO v0 0 ∧ post (gx_i u v0 1) u)
set_option maxHeartbeats 4000000 in
set_option maxRecDepth 100000 in
theorem w_X0_size {E : gx_E} (X : gx_X E cX0_size 1 RX0 (some .int)) (hd : 0 ≤ ex_d E) {post : Int32 → gx_S → Prop} (hQ : ex_Q E = va_Qi post (gx_B (ex_Z E)) (gx_A (ex_Z E))) {u : gx_S} {v0 : Nat} (h : S_X0_size u v0 post) : gx_Wc E 1 0 [(0, .ref (ex_ad E v0))] [] u := by
  unfold S_X0_size at h
  refine gx_aload_n X (j := 0) dX0_size_0 rfl rfl ?_
  obtain ⟨k1, h⟩ := h
  refine gx_get X k1 rfl iwX0 1 (by decide) mw_31 (v := .int (gx_i u v0 1)) rfl dX0_size_1 ?_
  exact gx_iret X hQ h dX0_size_4
theorem c_X0_size {l : Launch} {Z : gx_Z} {u : gx_S} {v0 : Nat} {post : Int32 → gx_S → Prop} (h : S_X0_size u v0 post) : Met l yX0_size (Cond.code yX0_size cX0_size 1 (some .int) :: gx_TB) (gx_rm 0) (gx_Pre Z u [.ref (Z.2.1 v0)]) (va_Qi post (gx_B Z) (gx_A Z)) 0 0 (gx_A Z) := by
  refine gx_met (by decide +kernel) (Nat.le_of_ble_eq_true rfl) ?_
  intro E X hZ hQ hD hL
  subst hZ
  exact w_X0_size X (Nat.le_of_eq hD.symm) hQ h
-- PlainSeal$Bytes.at(I)I
theorem dX0_at_0 : decode cX0_at 0 = .ok (.iload_n 1, 1) := by decide +kernel
theorem dX0_at_1 : decode cX0_at 1 = .ok (.ifCond .lt 24, 3) := by decide +kernel
theorem dX0_at_4 : decode cX0_at 4 = .ok (.iload_n 1, 1) := by decide +kernel
theorem dX0_at_5 : decode cX0_at 5 = .ok (.aload_n 0, 1) := by decide +kernel
theorem dX0_at_6 : decode cX0_at 6 = .ok (.getfield 15, 3) := by decide +kernel
theorem dX0_at_9 : decode cX0_at 9 = .ok (.if_icmp .ge 16, 3) := by decide +kernel
theorem dX0_at_12 : decode cX0_at 12 = .ok (.aload_n 0, 1) := by decide +kernel
theorem dX0_at_13 : decode cX0_at 13 = .ok (.getfield 9, 3) := by decide +kernel
theorem dX0_at_16 : decode cX0_at 16 = .ok (.iload_n 1, 1) := by decide +kernel
theorem dX0_at_17 : decode cX0_at 17 = .ok (.baload, 1) := by decide +kernel
theorem dX0_at_18 : decode cX0_at 18 = .ok (.sipush 255, 3) := by decide +kernel
theorem dX0_at_21 : decode cX0_at 21 = .ok (.iand, 1) := by decide +kernel
theorem dX0_at_22 : decode cX0_at 22 = .ok (.goto 5, 3) := by decide +kernel
theorem dX0_at_25 : decode cX0_at 25 = .ok (.bipush (-2), 2) := by decide +kernel
theorem dX0_at_27 : decode cX0_at 27 = .ok (.ireturn, 1) := by decide +kernel
theorem hyX0_at : yX0_at.cls ≠ "java/lang/invoke/MethodHandle" ∧ yX0_at.cls ≠ "java/lang/invoke/VarHandle" ∧ (parseMethodDescriptor yX0_at.desc).map (fun d => d.parameters.length) = some 1 := by decide +kernel
def S_X0_at (u : gx_S) (v0 : Nat) (v1 : Int32) (post : Int32 → gx_S → Prop) : Prop := ((v1 < 0 → post (-2 : Int32) u) ∧ (¬ v1 < 0 → (gx_isO v0 0 ∧ (((gx_i u v0 1) ≤ v1 → post (-2 : Int32) u) ∧ (¬ (gx_i u v0 1) ≤ v1 → (gx_isR (gx_r u v0 0) .byte ∧ vp_in v1 (gx_len (gx_r u v0 0)) ∧ post ((gx_a u (gx_r u v0 0) v1.toNatClampNeg) &&& (255 : Int32)) u))))))
set_option maxHeartbeats 4000000 in
set_option maxRecDepth 100000 in
theorem w_X0_at {E : gx_E} (X : gx_X E cX0_at 2 RX0 (some .int)) (hd : 0 ≤ ex_d E) {post : Int32 → gx_S → Prop} (hQ : ex_Q E = va_Qi post (gx_B (ex_Z E)) (gx_A (ex_Z E))) {u : gx_S} {v0 : Nat} {v1 : Int32} (h : S_X0_at u v0 v1 post) : gx_Wc E 2 0 [(0, .ref (ex_ad E v0)), (1, .int v1)] [] u := by
  unfold S_X0_at at h
  refine gx_iload_n X (j := 1) dX0_at_0 rfl rfl ?_
  refine gx_if_lt X (tgt := 25) dX0_at_1 (by decide) (fun c5 => ?_) (fun c5 => ?_)
  · replace h := h.1 c5
    refine gx_bipush X (v := -2) dX0_at_25 (by decide) ?_
    exact gx_iret X hQ h dX0_at_27
  · replace h := h.2 c5
    refine gx_iload_n X (j := 1) dX0_at_4 rfl rfl ?_
    refine gx_aload_n X (j := 0) dX0_at_5 rfl rfl ?_
    obtain ⟨k1, h⟩ := h
    refine gx_get X k1 rfl iwX0 1 (by decide) mw_31 (v := .int (gx_i u v0 1)) rfl dX0_at_6 ?_
    refine gx_icmp_ge X (tgt := 25) dX0_at_9 (by decide) (fun c4 => ?_) (fun c4 => ?_)
    · replace h := h.1 c4
      refine gx_bipush X (v := -2) dX0_at_25 (by decide) ?_
      exact gx_iret X hQ h dX0_at_27
    · replace h := h.2 c4
      refine gx_aload_n X (j := 0) dX0_at_12 rfl rfl ?_
      refine gx_get X k1 rfl iwX0 0 (by decide) mw_30 (v := .ref (ex_ad E (gx_r u v0 0))) rfl dX0_at_13 ?_
      refine gx_iload_n X (j := 1) dX0_at_16 rfl rfl ?_
      obtain ⟨k2, h⟩ := h
      obtain ⟨k3, h⟩ := h
      refine gx_bald X k2 k3 dX0_at_17 ?_
      refine gx_sipush X (v := 255) dX0_at_18 (by decide) ?_
      refine gx_iand X dX0_at_21 ?_
      refine gx_goto X (tgt := 27) dX0_at_22 (by decide) ?_
      exact gx_iret X hQ h dX0_at_27
theorem c_X0_at {l : Launch} {Z : gx_Z} {u : gx_S} {v0 : Nat} {v1 : Int32} {post : Int32 → gx_S → Prop} (h : S_X0_at u v0 v1 post) : Met l yX0_at (Cond.code yX0_at cX0_at 2 (some .int) :: gx_TB) (gx_rm 0) (gx_Pre Z u [.ref (Z.2.1 v0), .int v1]) (va_Qi post (gx_B Z) (gx_A Z)) 0 0 (gx_A Z) := by
  refine gx_met (by decide +kernel) (Nat.le_of_ble_eq_true rfl) ?_
  intro E X hZ hQ hD hL
  subst hZ
  exact w_X0_at X (Nat.le_of_eq hD.symm) hQ h
-- PlainSeal$Bytes.clear()V
theorem dX0_clear_0 : decode cX0_clear 0 = .ok (.aload_n 0, 1) := by decide +kernel
theorem dX0_clear_1 : decode cX0_clear 1 = .ok (.iconst 0, 1) := by decide +kernel
theorem dX0_clear_2 : decode cX0_clear 2 = .ok (.putfield 15, 3) := by decide +kernel
theorem dX0_clear_5 : decode cX0_clear 5 = .ok (.return_, 1) := by decide +kernel
theorem hyX0_clear : yX0_clear.cls ≠ "java/lang/invoke/MethodHandle" ∧ yX0_clear.cls ≠ "java/lang/invoke/VarHandle" ∧ (parseMethodDescriptor yX0_clear.desc).map (fun d => d.parameters.length) = some 0 := by decide +kernel
def S_X0_clear (u : gx_S) (v0 : Nat) (post : gx_S → Prop) : Prop := (gx_isO v0 0 ∧ ∀ u2 : gx_S, u2 = gx_pi u v0 1 (0 : Int32) → post u2)
set_option maxHeartbeats 4000000 in
set_option maxRecDepth 100000 in
theorem w_X0_clear {E : gx_E} (X : gx_X E cX0_clear 1 RX0 none) (hd : 0 ≤ ex_d E) {post : gx_S → Prop} (hQ : ex_Q E = va_Qv post (gx_B (ex_Z E)) (gx_A (ex_Z E))) {u : gx_S} {v0 : Nat} (h : S_X0_clear u v0 post) : gx_Wc E 1 0 [(0, .ref (ex_ad E v0))] [] u := by
  unfold S_X0_clear at h
  refine gx_aload_n X (j := 0) dX0_clear_0 rfl rfl ?_
  refine gx_iconst X (v := 0) dX0_clear_1 (by decide) ?_
  obtain ⟨k1, h⟩ := h
  refine gx_put X k1 rfl iwX0 tyX0_ok nmX0 1 (by decide) mw_31 rfl rfl rfl (fun _ => rfl) dX0_clear_2 ?_
  refine gx_nams (fun u2 eu2 => ?_)
  replace h := h u2 eu2
  exact gx_vret X hQ h dX0_clear_5
theorem c_X0_clear {l : Launch} {Z : gx_Z} {u : gx_S} {v0 : Nat} {post : gx_S → Prop} (h : S_X0_clear u v0 post) : Met l yX0_clear (Cond.code yX0_clear cX0_clear 1 none :: gx_TB) (gx_rm 0) (gx_Pre Z u [.ref (Z.2.1 v0)]) (va_Qv post (gx_B Z) (gx_A Z)) 0 0 (gx_A Z) := by
  refine gx_met (by decide +kernel) (Nat.le_of_ble_eq_true rfl) ?_
  intro E X hZ hQ hD hL
  subst hZ
  exact w_X0_clear X (Nat.le_of_eq hD.symm) hQ h
-- PlainSeal$Bytes.cutTo(I)V
theorem dX0_cutTo_0 : decode cX0_cutTo 0 = .ok (.iload_n 1, 1) := by decide +kernel
theorem dX0_cutTo_1 : decode cX0_cutTo 1 = .ok (.ifCond .lt 16, 3) := by decide +kernel
theorem dX0_cutTo_4 : decode cX0_cutTo 4 = .ok (.iload_n 1, 1) := by decide +kernel
theorem dX0_cutTo_5 : decode cX0_cutTo 5 = .ok (.aload_n 0, 1) := by decide +kernel
theorem dX0_cutTo_6 : decode cX0_cutTo 6 = .ok (.getfield 15, 3) := by decide +kernel
theorem dX0_cutTo_9 : decode cX0_cutTo 9 = .ok (.if_icmp .ge 8, 3) := by decide +kernel
theorem dX0_cutTo_12 : decode cX0_cutTo 12 = .ok (.aload_n 0, 1) := by decide +kernel
theorem dX0_cutTo_13 : decode cX0_cutTo 13 = .ok (.iload_n 1, 1) := by decide +kernel
theorem dX0_cutTo_14 : decode cX0_cutTo 14 = .ok (.putfield 15, 3) := by decide +kernel
theorem dX0_cutTo_17 : decode cX0_cutTo 17 = .ok (.return_, 1) := by decide +kernel
theorem hyX0_cutTo : yX0_cutTo.cls ≠ "java/lang/invoke/MethodHandle" ∧ yX0_cutTo.cls ≠ "java/lang/invoke/VarHandle" ∧ (parseMethodDescriptor yX0_cutTo.desc).map (fun d => d.parameters.length) = some 1 := by decide +kernel
def S_X0_cutTo (u : gx_S) (v0 : Nat) (v1 : Int32) (post : gx_S → Prop) : Prop := ((v1 < 0 → post u) ∧ (¬ v1 < 0 → (gx_isO v0 0 ∧ (((gx_i u v0 1) ≤ v1 → post u) ∧ (¬ (gx_i u v0 1) ≤ v1 → (∀ u2 : gx_S, u2 = gx_pi u v0 1 v1 → post u2))))))
set_option maxHeartbeats 4000000 in
set_option maxRecDepth 100000 in
theorem w_X0_cutTo {E : gx_E} (X : gx_X E cX0_cutTo 2 RX0 none) (hd : 0 ≤ ex_d E) {post : gx_S → Prop} (hQ : ex_Q E = va_Qv post (gx_B (ex_Z E)) (gx_A (ex_Z E))) {u : gx_S} {v0 : Nat} {v1 : Int32} (h : S_X0_cutTo u v0 v1 post) : gx_Wc E 2 0 [(0, .ref (ex_ad E v0)), (1, .int v1)] [] u := by
  unfold S_X0_cutTo at h
  refine gx_iload_n X (j := 1) dX0_cutTo_0 rfl rfl ?_
  refine gx_if_lt X (tgt := 17) dX0_cutTo_1 (by decide) (fun c4 => ?_) (fun c4 => ?_)
  · replace h := h.1 c4
    exact gx_vret X hQ h dX0_cutTo_17
  · replace h := h.2 c4
    refine gx_iload_n X (j := 1) dX0_cutTo_4 rfl rfl ?_
    refine gx_aload_n X (j := 0) dX0_cutTo_5 rfl rfl ?_
    obtain ⟨k1, h⟩ := h
    refine gx_get X k1 rfl iwX0 1 (by decide) mw_31 (v := .int (gx_i u v0 1)) rfl dX0_cutTo_6 ?_
    refine gx_icmp_ge X (tgt := 17) dX0_cutTo_9 (by decide) (fun c3 => ?_) (fun c3 => ?_)
    · replace h := h.1 c3
      exact gx_vret X hQ h dX0_cutTo_17
    · replace h := h.2 c3
      refine gx_aload_n X (j := 0) dX0_cutTo_12 rfl rfl ?_
      refine gx_iload_n X (j := 1) dX0_cutTo_13 rfl rfl ?_
      refine gx_put X k1 rfl iwX0 tyX0_ok nmX0 1 (by decide) mw_31 rfl rfl rfl (fun _ => rfl) dX0_cutTo_14 ?_
      refine gx_nams (fun u2 eu2 => ?_)
      replace h := h u2 eu2
      exact gx_vret X hQ h dX0_cutTo_17
theorem c_X0_cutTo {l : Launch} {Z : gx_Z} {u : gx_S} {v0 : Nat} {v1 : Int32} {post : gx_S → Prop} (h : S_X0_cutTo u v0 v1 post) : Met l yX0_cutTo (Cond.code yX0_cutTo cX0_cutTo 2 none :: gx_TB) (gx_rm 0) (gx_Pre Z u [.ref (Z.2.1 v0), .int v1]) (va_Qv post (gx_B Z) (gx_A Z)) 0 0 (gx_A Z) := by
  refine gx_met (by decide +kernel) (Nat.le_of_ble_eq_true rfl) ?_
  intro E X hZ hQ hD hL
  subst hZ
  exact w_X0_cutTo X (Nat.le_of_eq hD.symm) hQ h
-- PlainSeal$Bytes.add(I)V
theorem dX0_add_0 : decode cX0_add 0 = .ok (.aload_n 0, 1) := by decide +kernel
theorem dX0_add_1 : decode cX0_add 1 = .ok (.getfield 15, 3) := by decide +kernel
theorem dX0_add_4 : decode cX0_add 4 = .ok (.aload_n 0, 1) := by decide +kernel
theorem dX0_add_5 : decode cX0_add 5 = .ok (.getfield 9, 3) := by decide +kernel
theorem dX0_add_8 : decode cX0_add 8 = .ok (.arraylength, 1) := by decide +kernel
theorem dX0_add_9 : decode cX0_add 9 = .ok (.if_icmp .ge 24, 3) := by decide +kernel
theorem dX0_add_12 : decode cX0_add 12 = .ok (.aload_n 0, 1) := by decide +kernel
theorem dX0_add_13 : decode cX0_add 13 = .ok (.getfield 9, 3) := by decide +kernel
theorem dX0_add_16 : decode cX0_add 16 = .ok (.aload_n 0, 1) := by decide +kernel
theorem dX0_add_17 : decode cX0_add 17 = .ok (.getfield 15, 3) := by decide +kernel
theorem dX0_add_20 : decode cX0_add 20 = .ok (.iload_n 1, 1) := by decide +kernel
theorem dX0_add_21 : decode cX0_add 21 = .ok (.i2b, 1) := by decide +kernel
theorem dX0_add_22 : decode cX0_add 22 = .ok (.bastore, 1) := by decide +kernel
theorem dX0_add_23 : decode cX0_add 23 = .ok (.aload_n 0, 1) := by decide +kernel
theorem dX0_add_24 : decode cX0_add 24 = .ok (.dup, 1) := by decide +kernel
theorem dX0_add_25 : decode cX0_add 25 = .ok (.getfield 15, 3) := by decide +kernel
theorem dX0_add_28 : decode cX0_add 28 = .ok (.iconst 1, 1) := by decide +kernel
theorem dX0_add_29 : decode cX0_add 29 = .ok (.iadd, 1) := by decide +kernel
theorem dX0_add_30 : decode cX0_add 30 = .ok (.putfield 15, 3) := by decide +kernel
theorem dX0_add_33 : decode cX0_add 33 = .ok (.return_, 1) := by decide +kernel
theorem hyX0_add : yX0_add.cls ≠ "java/lang/invoke/MethodHandle" ∧ yX0_add.cls ≠ "java/lang/invoke/VarHandle" ∧ (parseMethodDescriptor yX0_add.desc).map (fun d => d.parameters.length) = some 1 := by decide +kernel
def S_X0_add (u : gx_S) (v0 : Nat) (v1 : Int32) (post : gx_S → Prop) : Prop := (gx_isO v0 0 ∧ (gx_isR (gx_r u v0 0) .byte ∧ (((nI (gx_len (gx_r u v0 0))) ≤ (gx_i u v0 1) → post u) ∧ (¬ (nI (gx_len (gx_r u v0 0))) ≤ (gx_i u v0 1) → (gx_isA (gx_r u v0 0) .byte ∧ vp_in (gx_i u v0 1) (gx_len (gx_r u v0 0)) ∧ ∀ u5 : gx_S, u5 = gx_pa u (gx_r u v0 0) (upd (gx_a u (gx_r u v0 0)) (gx_i u v0 1).toNatClampNeg ((v1).toInt8.toInt32).toInt8.toInt32) → (∀ u6 : gx_S, u6 = gx_pi u5 v0 1 ((gx_i u5 v0 1) + (1 : Int32)) → post u6))))))
set_option maxHeartbeats 4000000 in
set_option maxRecDepth 100000 in
theorem w_X0_add {E : gx_E} (X : gx_X E cX0_add 2 RX0 none) (hd : 0 ≤ ex_d E) {post : gx_S → Prop} (hQ : ex_Q E = va_Qv post (gx_B (ex_Z E)) (gx_A (ex_Z E))) {u : gx_S} {v0 : Nat} {v1 : Int32} (h : S_X0_add u v0 v1 post) : gx_Wc E 2 0 [(0, .ref (ex_ad E v0)), (1, .int v1)] [] u := by
  unfold S_X0_add at h
  refine gx_aload_n X (j := 0) dX0_add_0 rfl rfl ?_
  obtain ⟨k1, h⟩ := h
  refine gx_get X k1 rfl iwX0 1 (by decide) mw_31 (v := .int (gx_i u v0 1)) rfl dX0_add_1 ?_
  refine gx_aload_n X (j := 0) dX0_add_4 rfl rfl ?_
  refine gx_get X k1 rfl iwX0 0 (by decide) mw_30 (v := .ref (ex_ad E (gx_r u v0 0))) rfl dX0_add_5 ?_
  obtain ⟨k2, h⟩ := h
  refine gx_alen X k2 dX0_add_8 ?_
  refine gx_icmp_ge X (tgt := 33) dX0_add_9 (by decide) (fun c7 => ?_) (fun c7 => ?_)
  · replace h := h.1 c7
    exact gx_vret X hQ h dX0_add_33
  · replace h := h.2 c7
    refine gx_aload_n X (j := 0) dX0_add_12 rfl rfl ?_
    refine gx_get X k1 rfl iwX0 0 (by decide) mw_30 (v := .ref (ex_ad E (gx_r u v0 0))) rfl dX0_add_13 ?_
    refine gx_aload_n X (j := 0) dX0_add_16 rfl rfl ?_
    refine gx_get X k1 rfl iwX0 1 (by decide) mw_31 (v := .int (gx_i u v0 1)) rfl dX0_add_17 ?_
    refine gx_iload_n X (j := 1) dX0_add_20 rfl rfl ?_
    refine gx_i2b X (v := (v1).toInt8.toInt32) dX0_add_21 rfl ?_
    obtain ⟨k3, h⟩ := h
    obtain ⟨k4, h⟩ := h
    refine gx_bast X k3 k4 dX0_add_22 ?_
    refine gx_nams (fun u5 eu5 => ?_)
    replace h := h u5 eu5
    refine gx_aload_n X (j := 0) dX0_add_23 rfl rfl ?_
    refine gx_dup X dX0_add_24 rfl ?_
    refine gx_get X k1 rfl iwX0 1 (by decide) mw_31 (v := .int (gx_i u5 v0 1)) rfl dX0_add_25 ?_
    refine gx_iconst X (v := 1) dX0_add_28 (by decide) ?_
    refine gx_iadd X dX0_add_29 ?_
    refine gx_put X k1 rfl iwX0 tyX0_ok nmX0 1 (by decide) mw_31 rfl rfl rfl (fun _ => rfl) dX0_add_30 ?_
    refine gx_nams (fun u6 eu6 => ?_)
    replace h := h u6 eu6
    exact gx_vret X hQ h dX0_add_33
theorem c_X0_add {l : Launch} {Z : gx_Z} {u : gx_S} {v0 : Nat} {v1 : Int32} {post : gx_S → Prop} (h : S_X0_add u v0 v1 post) : Met l yX0_add (Cond.code yX0_add cX0_add 2 none :: gx_TB) (gx_rm 0) (gx_Pre Z u [.ref (Z.2.1 v0), .int v1]) (va_Qv post (gx_B Z) (gx_A Z)) 0 0 (gx_A Z) := by
  refine gx_met (by decide +kernel) (Nat.le_of_ble_eq_true rfl) ?_
  intro E X hZ hQ hD hL
  subst hZ
  exact w_X0_add X (Nat.le_of_eq hD.symm) hQ h
-- PlainSeal$Bytes.addTimes(II)V
theorem dX0_addTimes_0 : decode cX0_addTimes 0 = .ok (.iconst 0, 1) := by decide +kernel
theorem dX0_addTimes_1 : decode cX0_addTimes 1 = .ok (.istore_n 3, 1) := by decide +kernel
theorem dX0_addTimes_2 : decode cX0_addTimes 2 = .ok (.iload_n 3, 1) := by decide +kernel
theorem dX0_addTimes_3 : decode cX0_addTimes 3 = .ok (.iload_n 2, 1) := by decide +kernel
theorem dX0_addTimes_4 : decode cX0_addTimes 4 = .ok (.if_icmp .ge 14, 3) := by decide +kernel
theorem dX0_addTimes_7 : decode cX0_addTimes 7 = .ok (.aload_n 0, 1) := by decide +kernel
theorem dX0_addTimes_8 : decode cX0_addTimes 8 = .ok (.iload_n 1, 1) := by decide +kernel
theorem dX0_addTimes_9 : decode cX0_addTimes 9 = .ok (.invokevirtual 19, 3) := by decide +kernel
theorem dX0_addTimes_12 : decode cX0_addTimes 12 = .ok (.iinc 3 1, 3) := by decide +kernel
theorem dX0_addTimes_15 : decode cX0_addTimes 15 = .ok (.goto (-13), 3) := by decide +kernel
theorem dX0_addTimes_18 : decode cX0_addTimes 18 = .ok (.return_, 1) := by decide +kernel
theorem hyX0_addTimes : yX0_addTimes.cls ≠ "java/lang/invoke/MethodHandle" ∧ yX0_addTimes.cls ≠ "java/lang/invoke/VarHandle" ∧ (parseMethodDescriptor yX0_addTimes.desc).map (fun d => d.parameters.length) = some 2 := by decide +kernel
abbrev J_X0_addTimes_2 (E : gx_E) (v0 : Nat) (v1 : Int32) (v2 : Int32) (v3 : Int32) (u : gx_S) : Prop := gx_Wc E 4 2 [(0, .ref (ex_ad E v0)), (1, .int v1), (2, .int v2), (3, .int v3)] [] u
set_option maxHeartbeats 4000000 in
set_option maxRecDepth 100000 in
theorem w_X0_addTimes_0 {E : gx_E} (X : gx_X E cX0_addTimes 4 RX0 none) (hd : 1 ≤ ex_d E) {post : gx_S → Prop} (hQ : ex_Q E = va_Qv post (gx_B (ex_Z E)) (gx_A (ex_Z E))) {u : gx_S} {v0 : Nat} {v1 : Int32} {v2 : Int32} (h : J_X0_addTimes_2 E v0 v1 v2 (0 : Int32) u) : gx_Wc E 4 0 [(0, .ref (ex_ad E v0)), (1, .int v1), (2, .int v2)] [] u := by
  refine gx_iconst X (v := 0) dX0_addTimes_0 (by decide) ?_
  refine gx_istore_n X (lv' := [(3, .int (0 : Int32)), (0, .ref (ex_ad E v0)), (1, .int v1), (2, .int v2)]) dX0_addTimes_1 rfl (by decide) rfl ?_
  exact gx_sub [1, 2, 3, 0] rfl h
set_option maxHeartbeats 4000000 in
set_option maxRecDepth 100000 in
theorem w_X0_addTimes_2 {E : gx_E} (X : gx_X E cX0_addTimes 4 RX0 none) (hd : 1 ≤ ex_d E) {post : gx_S → Prop} (hQ : ex_Q E = va_Qv post (gx_B (ex_Z E)) (gx_A (ex_Z E))) {u : gx_S} {v0 : Nat} {v1 : Int32} {v2 : Int32} {v3 : Int32} (h : ((v2 ≤ v3 → post u) ∧ (¬ v2 ≤ v3 → (gx_isO v0 0 ∧ S_X0_add u v0 v1 (fun (u2 : gx_S) => (∀ x3 : Int32, x3 = v3 + 1 → J_X0_addTimes_2 E v0 v1 v2 x3 u2)))))) : gx_Wc E 4 2 [(0, .ref (ex_ad E v0)), (1, .int v1), (2, .int v2), (3, .int v3)] [] u := by
  refine gx_iload_n X (j := 3) dX0_addTimes_2 rfl rfl ?_
  refine gx_iload_n X (j := 2) dX0_addTimes_3 rfl rfl ?_
  refine gx_icmp_ge X (tgt := 18) dX0_addTimes_4 (by decide) (fun c4 => ?_) (fun c4 => ?_)
  · replace h := h.1 c4
    exact gx_vret X hQ h dX0_addTimes_18
  · replace h := h.2 c4
    refine gx_aload_n X (j := 0) dX0_addTimes_7 rfl rfl ?_
    refine gx_iload_n X (j := 1) dX0_addTimes_8 rfl rfl ?_
    obtain ⟨k1, h⟩ := h
    refine gx_kv (gx_rV X (c_X0_add h) (Nat.le_trans (by decide) hd) (Nat.le_trans (by decide) (Nat.mul_le_mul_left 40 hd)) k1 rfl mw_135 mw_136 mw_137 mw_2 mw_138 hyX0_add (As := [.int v1]) (rest := []) rfl rfl (Nat.le_of_ble_eq_true rfl) dX0_addTimes_9) (fun u2 h => ?_)
    obtain ⟨x3, ex3⟩ : ∃ y : Int32, y = v3 + 1 := ⟨_, rfl⟩
    replace h := h x3 ex3
    refine gx_iinc X (v := x3) (lv' := [(3, .int x3), (0, .ref (ex_ad E v0)), (1, .int v1), (2, .int v2)]) dX0_addTimes_12 (j := 3) rfl (by rw [ex3]; rfl) (by decide) rfl ?_
    refine gx_goto X (tgt := 2) dX0_addTimes_15 (by decide) ?_
    exact gx_sub [1, 2, 3, 0] rfl h
-- PlainSeal$Bytes.addWord(I)V
theorem dX0_addWord_0 : decode cX0_addWord 0 = .ok (.aload_n 0, 1) := by decide +kernel
theorem dX0_addWord_1 : decode cX0_addWord 1 = .ok (.iload_n 1, 1) := by decide +kernel
theorem dX0_addWord_2 : decode cX0_addWord 2 = .ok (.bipush 24, 2) := by decide +kernel
theorem dX0_addWord_4 : decode cX0_addWord 4 = .ok (.iushr, 1) := by decide +kernel
theorem dX0_addWord_5 : decode cX0_addWord 5 = .ok (.invokevirtual 19, 3) := by decide +kernel
theorem dX0_addWord_8 : decode cX0_addWord 8 = .ok (.aload_n 0, 1) := by decide +kernel
theorem dX0_addWord_9 : decode cX0_addWord 9 = .ok (.iload_n 1, 1) := by decide +kernel
theorem dX0_addWord_10 : decode cX0_addWord 10 = .ok (.bipush 16, 2) := by decide +kernel
theorem dX0_addWord_12 : decode cX0_addWord 12 = .ok (.iushr, 1) := by decide +kernel
theorem dX0_addWord_13 : decode cX0_addWord 13 = .ok (.invokevirtual 19, 3) := by decide +kernel
theorem dX0_addWord_16 : decode cX0_addWord 16 = .ok (.aload_n 0, 1) := by decide +kernel
theorem dX0_addWord_17 : decode cX0_addWord 17 = .ok (.iload_n 1, 1) := by decide +kernel
theorem dX0_addWord_18 : decode cX0_addWord 18 = .ok (.bipush 8, 2) := by decide +kernel
theorem dX0_addWord_20 : decode cX0_addWord 20 = .ok (.iushr, 1) := by decide +kernel
theorem dX0_addWord_21 : decode cX0_addWord 21 = .ok (.invokevirtual 19, 3) := by decide +kernel
theorem dX0_addWord_24 : decode cX0_addWord 24 = .ok (.aload_n 0, 1) := by decide +kernel
theorem dX0_addWord_25 : decode cX0_addWord 25 = .ok (.iload_n 1, 1) := by decide +kernel
theorem dX0_addWord_26 : decode cX0_addWord 26 = .ok (.invokevirtual 19, 3) := by decide +kernel
theorem dX0_addWord_29 : decode cX0_addWord 29 = .ok (.return_, 1) := by decide +kernel
theorem hyX0_addWord : yX0_addWord.cls ≠ "java/lang/invoke/MethodHandle" ∧ yX0_addWord.cls ≠ "java/lang/invoke/VarHandle" ∧ (parseMethodDescriptor yX0_addWord.desc).map (fun d => d.parameters.length) = some 1 := by decide +kernel
def S_X0_addWord (u : gx_S) (v0 : Nat) (v1 : Int32) (post : gx_S → Prop) : Prop := (gx_isO v0 0 ∧ S_X0_add u v0 ((v1.toUInt32 >>> ((24 : Int32).toUInt32 &&& Int32.toUInt32 31)).toInt32) (fun (u2 : gx_S) => (S_X0_add u2 v0 ((v1.toUInt32 >>> ((16 : Int32).toUInt32 &&& Int32.toUInt32 31)).toInt32) (fun (u3 : gx_S) => (S_X0_add u3 v0 ((v1.toUInt32 >>> ((8 : Int32).toUInt32 &&& Int32.toUInt32 31)).toInt32) (fun (u4 : gx_S) => (S_X0_add u4 v0 v1 (fun (u5 : gx_S) => post u5))))))))
set_option maxHeartbeats 4000000 in
set_option maxRecDepth 100000 in
theorem w_X0_addWord {E : gx_E} (X : gx_X E cX0_addWord 2 RX0 none) (hd : 1 ≤ ex_d E) {post : gx_S → Prop} (hQ : ex_Q E = va_Qv post (gx_B (ex_Z E)) (gx_A (ex_Z E))) {u : gx_S} {v0 : Nat} {v1 : Int32} (h : S_X0_addWord u v0 v1 post) : gx_Wc E 2 0 [(0, .ref (ex_ad E v0)), (1, .int v1)] [] u := by
  unfold S_X0_addWord at h
  refine gx_aload_n X (j := 0) dX0_addWord_0 rfl rfl ?_
  refine gx_iload_n X (j := 1) dX0_addWord_1 rfl rfl ?_
  refine gx_bipush X (v := 24) dX0_addWord_2 (by decide) ?_
  refine gx_iushr X (v := (v1.toUInt32 >>> ((24 : Int32).toUInt32 &&& Int32.toUInt32 31)).toInt32) dX0_addWord_4 rfl ?_
  obtain ⟨k1, h⟩ := h
  refine gx_kv (gx_rV X (c_X0_add h) (Nat.le_trans (by decide) hd) (Nat.le_trans (by decide) (Nat.mul_le_mul_left 40 hd)) k1 rfl mw_135 mw_136 mw_137 mw_2 mw_138 hyX0_add (As := [.int ((v1.toUInt32 >>> ((24 : Int32).toUInt32 &&& Int32.toUInt32 31)).toInt32)]) (rest := []) rfl rfl (Nat.le_of_ble_eq_true rfl) dX0_addWord_5) (fun u2 h => ?_)
  refine gx_aload_n X (j := 0) dX0_addWord_8 rfl rfl ?_
  refine gx_iload_n X (j := 1) dX0_addWord_9 rfl rfl ?_
  refine gx_bipush X (v := 16) dX0_addWord_10 (by decide) ?_
  refine gx_iushr X (v := (v1.toUInt32 >>> ((16 : Int32).toUInt32 &&& Int32.toUInt32 31)).toInt32) dX0_addWord_12 rfl ?_
  refine gx_kv (gx_rV X (c_X0_add h) (Nat.le_trans (by decide) hd) (Nat.le_trans (by decide) (Nat.mul_le_mul_left 40 hd)) k1 rfl mw_135 mw_136 mw_137 mw_2 mw_138 hyX0_add (As := [.int ((v1.toUInt32 >>> ((16 : Int32).toUInt32 &&& Int32.toUInt32 31)).toInt32)]) (rest := []) rfl rfl (Nat.le_of_ble_eq_true rfl) dX0_addWord_13) (fun u3 h => ?_)
  refine gx_aload_n X (j := 0) dX0_addWord_16 rfl rfl ?_
  refine gx_iload_n X (j := 1) dX0_addWord_17 rfl rfl ?_
  refine gx_bipush X (v := 8) dX0_addWord_18 (by decide) ?_
  refine gx_iushr X (v := (v1.toUInt32 >>> ((8 : Int32).toUInt32 &&& Int32.toUInt32 31)).toInt32) dX0_addWord_20 rfl ?_
  refine gx_kv (gx_rV X (c_X0_add h) (Nat.le_trans (by decide) hd) (Nat.le_trans (by decide) (Nat.mul_le_mul_left 40 hd)) k1 rfl mw_135 mw_136 mw_137 mw_2 mw_138 hyX0_add (As := [.int ((v1.toUInt32 >>> ((8 : Int32).toUInt32 &&& Int32.toUInt32 31)).toInt32)]) (rest := []) rfl rfl (Nat.le_of_ble_eq_true rfl) dX0_addWord_21) (fun u4 h => ?_)
  refine gx_aload_n X (j := 0) dX0_addWord_24 rfl rfl ?_
  refine gx_iload_n X (j := 1) dX0_addWord_25 rfl rfl ?_
  refine gx_kv (gx_rV X (c_X0_add h) (Nat.le_trans (by decide) hd) (Nat.le_trans (by decide) (Nat.mul_le_mul_left 40 hd)) k1 rfl mw_135 mw_136 mw_137 mw_2 mw_138 hyX0_add (As := [.int v1]) (rest := []) rfl rfl (Nat.le_of_ble_eq_true rfl) dX0_addWord_26) (fun u5 h => ?_)
  exact gx_vret X hQ h dX0_addWord_29
theorem c_X0_addWord {l : Launch} {Z : gx_Z} {u : gx_S} {v0 : Nat} {v1 : Int32} {post : gx_S → Prop} (h : S_X0_addWord u v0 v1 post) : Met l yX0_addWord (Cond.code yX0_addWord cX0_addWord 2 none :: gx_TB) (gx_rm 1) (gx_Pre Z u [.ref (Z.2.1 v0), .int v1]) (va_Qv post (gx_B Z) (gx_A Z)) 0 0 (gx_A Z) := by
  refine gx_met (by decide +kernel) (Nat.le_of_ble_eq_true rfl) ?_
  intro E X hZ hQ hD hL
  subst hZ
  exact w_X0_addWord X (Nat.le_of_eq hD.symm) hQ h
-- PlainSeal$Bytes.addPart(LPlainSeal$Bytes;II)V
theorem dX0_addPart_0 : decode cX0_addPart 0 = .ok (.iload_n 2, 1) := by decide +kernel
theorem dX0_addPart_1 : decode cX0_addPart 1 = .ok (.istore 4, 2) := by decide +kernel
theorem dX0_addPart_3 : decode cX0_addPart 3 = .ok (.iload 4, 2) := by decide +kernel
theorem dX0_addPart_5 : decode cX0_addPart 5 = .ok (.iload_n 3, 1) := by decide +kernel
theorem dX0_addPart_6 : decode cX0_addPart 6 = .ok (.if_icmp .ge 19, 3) := by decide +kernel
theorem dX0_addPart_9 : decode cX0_addPart 9 = .ok (.aload_n 0, 1) := by decide +kernel
theorem dX0_addPart_10 : decode cX0_addPart 10 = .ok (.aload_n 1, 1) := by decide +kernel
theorem dX0_addPart_11 : decode cX0_addPart 11 = .ok (.iload 4, 2) := by decide +kernel
theorem dX0_addPart_13 : decode cX0_addPart 13 = .ok (.invokevirtual 23, 3) := by decide +kernel
theorem dX0_addPart_16 : decode cX0_addPart 16 = .ok (.invokevirtual 19, 3) := by decide +kernel
theorem dX0_addPart_19 : decode cX0_addPart 19 = .ok (.iinc 4 1, 3) := by decide +kernel
theorem dX0_addPart_22 : decode cX0_addPart 22 = .ok (.goto (-19), 3) := by decide +kernel
theorem dX0_addPart_25 : decode cX0_addPart 25 = .ok (.return_, 1) := by decide +kernel
theorem hyX0_addPart : yX0_addPart.cls ≠ "java/lang/invoke/MethodHandle" ∧ yX0_addPart.cls ≠ "java/lang/invoke/VarHandle" ∧ (parseMethodDescriptor yX0_addPart.desc).map (fun d => d.parameters.length) = some 3 := by decide +kernel
abbrev J_X0_addPart_3 (E : gx_E) (v0 : Nat) (v1 : Nat) (v2 : Int32) (v3 : Int32) (v4 : Int32) (u : gx_S) : Prop := gx_Wc E 5 3 [(0, .ref (ex_ad E v0)), (1, .ref (ex_ad E v1)), (2, .int v2), (3, .int v3), (4, .int v4)] [] u
set_option maxHeartbeats 4000000 in
set_option maxRecDepth 100000 in
theorem w_X0_addPart_0 {E : gx_E} (X : gx_X E cX0_addPart 5 RX0 none) (hd : 1 ≤ ex_d E) {post : gx_S → Prop} (hQ : ex_Q E = va_Qv post (gx_B (ex_Z E)) (gx_A (ex_Z E))) {u : gx_S} {v0 : Nat} {v1 : Nat} {v2 : Int32} {v3 : Int32} (h : J_X0_addPart_3 E v0 v1 v2 v3 v2 u) : gx_Wc E 5 0 [(0, .ref (ex_ad E v0)), (1, .ref (ex_ad E v1)), (2, .int v2), (3, .int v3)] [] u := by
  refine gx_iload_n X (j := 2) dX0_addPart_0 rfl rfl ?_
  refine gx_istore X (lv' := [(4, .int v2), (0, .ref (ex_ad E v0)), (1, .ref (ex_ad E v1)), (2, .int v2), (3, .int v3)]) dX0_addPart_1 (by decide) rfl ?_
  exact gx_sub [1, 2, 3, 4, 0] rfl h
set_option maxHeartbeats 4000000 in
set_option maxRecDepth 100000 in
theorem w_X0_addPart_3 {E : gx_E} (X : gx_X E cX0_addPart 5 RX0 none) (hd : 1 ≤ ex_d E) {post : gx_S → Prop} (hQ : ex_Q E = va_Qv post (gx_B (ex_Z E)) (gx_A (ex_Z E))) {u : gx_S} {v0 : Nat} {v1 : Nat} {v2 : Int32} {v3 : Int32} {v4 : Int32} (h : ((v3 ≤ v4 → post u) ∧ (¬ v3 ≤ v4 → (gx_isO v1 0 ∧ S_X0_at u v1 v4 (fun (r3 : Int32) (u2 : gx_S) => (gx_isO v0 0 ∧ S_X0_add u2 v0 r3 (fun (u5 : gx_S) => (∀ x6 : Int32, x6 = v4 + 1 → J_X0_addPart_3 E v0 v1 v2 v3 x6 u5)))))))) : gx_Wc E 5 3 [(0, .ref (ex_ad E v0)), (1, .ref (ex_ad E v1)), (2, .int v2), (3, .int v3), (4, .int v4)] [] u := by
  refine gx_iload X (j := 4) dX0_addPart_3 rfl ?_
  refine gx_iload_n X (j := 3) dX0_addPart_5 rfl rfl ?_
  refine gx_icmp_ge X (tgt := 25) dX0_addPart_6 (by decide) (fun c7 => ?_) (fun c7 => ?_)
  · replace h := h.1 c7
    exact gx_vret X hQ h dX0_addPart_25
  · replace h := h.2 c7
    refine gx_aload_n X (j := 0) dX0_addPart_9 rfl rfl ?_
    refine gx_aload_n X (j := 1) dX0_addPart_10 rfl rfl ?_
    refine gx_iload X (j := 4) dX0_addPart_11 rfl ?_
    obtain ⟨k1, h⟩ := h
    refine gx_ki (gx_rV X (c_X0_at h) (Nat.le_trans (by decide) hd) (Nat.le_trans (by decide) (Nat.mul_le_mul_left 40 hd)) k1 rfl mw_199 mw_163 mw_164 mw_2 mw_165 hyX0_at (As := [.int v4]) (rest := [.ref (ex_ad E v0)]) rfl rfl (Nat.le_of_ble_eq_true rfl) dX0_addPart_13) (fun r3 u2 h => ?_)
    obtain ⟨k4, h⟩ := h
    refine gx_kv (gx_rV X (c_X0_add h) (Nat.le_trans (by decide) hd) (Nat.le_trans (by decide) (Nat.mul_le_mul_left 40 hd)) k4 rfl mw_135 mw_136 mw_137 mw_2 mw_138 hyX0_add (As := [.int r3]) (rest := []) rfl rfl (Nat.le_of_ble_eq_true rfl) dX0_addPart_16) (fun u5 h => ?_)
    obtain ⟨x6, ex6⟩ : ∃ y : Int32, y = v4 + 1 := ⟨_, rfl⟩
    replace h := h x6 ex6
    refine gx_iinc X (v := x6) (lv' := [(4, .int x6), (0, .ref (ex_ad E v0)), (1, .ref (ex_ad E v1)), (2, .int v2), (3, .int v3)]) dX0_addPart_19 (j := 4) rfl (by rw [ex6]; rfl) (by decide) rfl ?_
    refine gx_goto X (tgt := 3) dX0_addPart_22 (by decide) ?_
    exact gx_sub [1, 2, 3, 4, 0] rfl h
-- PlainSeal$Bytes.find(II)I
theorem dX0_find_0 : decode cX0_find 0 = .ok (.iload_n 2, 1) := by decide +kernel
theorem dX0_find_1 : decode cX0_find 1 = .ok (.istore_n 3, 1) := by decide +kernel
theorem dX0_find_2 : decode cX0_find 2 = .ok (.iload_n 3, 1) := by decide +kernel
theorem dX0_find_3 : decode cX0_find 3 = .ok (.aload_n 0, 1) := by decide +kernel
theorem dX0_find_4 : decode cX0_find 4 = .ok (.getfield 15, 3) := by decide +kernel
theorem dX0_find_7 : decode cX0_find 7 = .ok (.if_icmp .ge 20, 3) := by decide +kernel
theorem dX0_find_10 : decode cX0_find 10 = .ok (.aload_n 0, 1) := by decide +kernel
theorem dX0_find_11 : decode cX0_find 11 = .ok (.iload_n 3, 1) := by decide +kernel
theorem dX0_find_12 : decode cX0_find 12 = .ok (.invokevirtual 23, 3) := by decide +kernel
theorem dX0_find_15 : decode cX0_find 15 = .ok (.iload_n 1, 1) := by decide +kernel
theorem dX0_find_16 : decode cX0_find 16 = .ok (.if_icmp .ne 5, 3) := by decide +kernel
theorem dX0_find_19 : decode cX0_find 19 = .ok (.iload_n 3, 1) := by decide +kernel
theorem dX0_find_20 : decode cX0_find 20 = .ok (.ireturn, 1) := by decide +kernel
theorem dX0_find_21 : decode cX0_find 21 = .ok (.iinc 3 1, 3) := by decide +kernel
theorem dX0_find_24 : decode cX0_find 24 = .ok (.goto (-22), 3) := by decide +kernel
theorem dX0_find_27 : decode cX0_find 27 = .ok (.aload_n 0, 1) := by decide +kernel
theorem dX0_find_28 : decode cX0_find 28 = .ok (.getfield 15, 3) := by decide +kernel
theorem dX0_find_31 : decode cX0_find 31 = .ok (.ireturn, 1) := by decide +kernel
theorem hyX0_find : yX0_find.cls ≠ "java/lang/invoke/MethodHandle" ∧ yX0_find.cls ≠ "java/lang/invoke/VarHandle" ∧ (parseMethodDescriptor yX0_find.desc).map (fun d => d.parameters.length) = some 2 := by decide +kernel
abbrev J_X0_find_2 (E : gx_E) (v0 : Nat) (v1 : Int32) (v2 : Int32) (v3 : Int32) (u : gx_S) : Prop := gx_Wc E 4 2 [(0, .ref (ex_ad E v0)), (1, .int v1), (2, .int v2), (3, .int v3)] [] u
set_option maxHeartbeats 4000000 in
set_option maxRecDepth 100000 in
theorem w_X0_find_0 {E : gx_E} (X : gx_X E cX0_find 4 RX0 (some .int)) (hd : 1 ≤ ex_d E) {post : Int32 → gx_S → Prop} (hQ : ex_Q E = va_Qi post (gx_B (ex_Z E)) (gx_A (ex_Z E))) {u : gx_S} {v0 : Nat} {v1 : Int32} {v2 : Int32} (h : J_X0_find_2 E v0 v1 v2 v2 u) : gx_Wc E 4 0 [(0, .ref (ex_ad E v0)), (1, .int v1), (2, .int v2)] [] u := by
  refine gx_iload_n X (j := 2) dX0_find_0 rfl rfl ?_
  refine gx_istore_n X (lv' := [(3, .int v2), (0, .ref (ex_ad E v0)), (1, .int v1), (2, .int v2)]) dX0_find_1 rfl (by decide) rfl ?_
  exact gx_sub [1, 2, 3, 0] rfl h
set_option maxHeartbeats 4000000 in
set_option maxRecDepth 100000 in
theorem w_X0_find_2 {E : gx_E} (X : gx_X E cX0_find 4 RX0 (some .int)) (hd : 1 ≤ ex_d E) {post : Int32 → gx_S → Prop} (hQ : ex_Q E = va_Qi post (gx_B (ex_Z E)) (gx_A (ex_Z E))) {u : gx_S} {v0 : Nat} {v1 : Int32} {v2 : Int32} {v3 : Int32} (h : (gx_isO v0 0 ∧ (((gx_i u v0 1) ≤ v3 → post (gx_i u v0 1) u) ∧ (¬ (gx_i u v0 1) ≤ v3 → (S_X0_at u v0 v3 (fun (r3 : Int32) (u2 : gx_S) => ((¬ r3 = v1 → (∀ x4 : Int32, x4 = v3 + 1 → J_X0_find_2 E v0 v1 v2 x4 u2)) ∧ (r3 = v1 → post v3 u2)))))))) : gx_Wc E 4 2 [(0, .ref (ex_ad E v0)), (1, .int v1), (2, .int v2), (3, .int v3)] [] u := by
  refine gx_iload_n X (j := 3) dX0_find_2 rfl rfl ?_
  refine gx_aload_n X (j := 0) dX0_find_3 rfl rfl ?_
  obtain ⟨k1, h⟩ := h
  refine gx_get X k1 rfl iwX0 1 (by decide) mw_31 (v := .int (gx_i u v0 1)) rfl dX0_find_4 ?_
  refine gx_icmp_ge X (tgt := 27) dX0_find_7 (by decide) (fun c6 => ?_) (fun c6 => ?_)
  · replace h := h.1 c6
    refine gx_aload_n X (j := 0) dX0_find_27 rfl rfl ?_
    refine gx_get X k1 rfl iwX0 1 (by decide) mw_31 (v := .int (gx_i u v0 1)) rfl dX0_find_28 ?_
    exact gx_iret X hQ h dX0_find_31
  · replace h := h.2 c6
    refine gx_aload_n X (j := 0) dX0_find_10 rfl rfl ?_
    refine gx_iload_n X (j := 3) dX0_find_11 rfl rfl ?_
    refine gx_ki (gx_rV X (c_X0_at h) (Nat.le_trans (by decide) hd) (Nat.le_trans (by decide) (Nat.mul_le_mul_left 40 hd)) k1 rfl mw_199 mw_163 mw_164 mw_2 mw_165 hyX0_at (As := [.int v3]) (rest := []) rfl rfl (Nat.le_of_ble_eq_true rfl) dX0_find_12) (fun r3 u2 h => ?_)
    refine gx_iload_n X (j := 1) dX0_find_15 rfl rfl ?_
    refine gx_icmp_ne X (tgt := 21) dX0_find_16 (by decide) (fun c5 => ?_) (fun c5 => ?_)
    · replace h := h.1 c5
      obtain ⟨x4, ex4⟩ : ∃ y : Int32, y = v3 + 1 := ⟨_, rfl⟩
      replace h := h x4 ex4
      refine gx_iinc X (v := x4) (lv' := [(3, .int x4), (0, .ref (ex_ad E v0)), (1, .int v1), (2, .int v2)]) dX0_find_21 (j := 3) rfl (by rw [ex4]; rfl) (by decide) rfl ?_
      refine gx_goto X (tgt := 2) dX0_find_24 (by decide) ?_
      exact gx_sub [1, 2, 3, 0] rfl h
    · replace h := h.2 c5
      refine gx_iload_n X (j := 3) dX0_find_19 rfl rfl ?_
      exact gx_iret X hQ h dX0_find_20
-- PlainSeal$Bytes.dropWhiteAndNewlines()V
theorem dX0_dropWhiteAndNewlines_0 : decode cX0_dropWhiteAndNewlines 0 = .ok (.aload_n 0, 1) := by decide +kernel
theorem dX0_dropWhiteAndNewlines_1 : decode cX0_dropWhiteAndNewlines 1 = .ok (.getfield 15, 3) := by decide +kernel
theorem dX0_dropWhiteAndNewlines_4 : decode cX0_dropWhiteAndNewlines 4 = .ok (.istore_n 1, 1) := by decide +kernel
theorem dX0_dropWhiteAndNewlines_5 : decode cX0_dropWhiteAndNewlines 5 = .ok (.aload_n 0, 1) := by decide +kernel
theorem dX0_dropWhiteAndNewlines_6 : decode cX0_dropWhiteAndNewlines 6 = .ok (.iconst 0, 1) := by decide +kernel
theorem dX0_dropWhiteAndNewlines_7 : decode cX0_dropWhiteAndNewlines 7 = .ok (.putfield 15, 3) := by decide +kernel
theorem dX0_dropWhiteAndNewlines_10 : decode cX0_dropWhiteAndNewlines 10 = .ok (.iconst 0, 1) := by decide +kernel
theorem dX0_dropWhiteAndNewlines_11 : decode cX0_dropWhiteAndNewlines 11 = .ok (.istore_n 2, 1) := by decide +kernel
theorem dX0_dropWhiteAndNewlines_12 : decode cX0_dropWhiteAndNewlines 12 = .ok (.iload_n 2, 1) := by decide +kernel
theorem dX0_dropWhiteAndNewlines_13 : decode cX0_dropWhiteAndNewlines 13 = .ok (.iload_n 1, 1) := by decide +kernel
theorem dX0_dropWhiteAndNewlines_14 : decode cX0_dropWhiteAndNewlines 14 = .ok (.if_icmp .ge 38, 3) := by decide +kernel
theorem dX0_dropWhiteAndNewlines_17 : decode cX0_dropWhiteAndNewlines 17 = .ok (.aload_n 0, 1) := by decide +kernel
theorem dX0_dropWhiteAndNewlines_18 : decode cX0_dropWhiteAndNewlines 18 = .ok (.getfield 9, 3) := by decide +kernel
theorem dX0_dropWhiteAndNewlines_21 : decode cX0_dropWhiteAndNewlines 21 = .ok (.iload_n 2, 1) := by decide +kernel
theorem dX0_dropWhiteAndNewlines_22 : decode cX0_dropWhiteAndNewlines 22 = .ok (.baload, 1) := by decide +kernel
theorem dX0_dropWhiteAndNewlines_23 : decode cX0_dropWhiteAndNewlines 23 = .ok (.sipush 255, 3) := by decide +kernel
theorem dX0_dropWhiteAndNewlines_26 : decode cX0_dropWhiteAndNewlines 26 = .ok (.iand, 1) := by decide +kernel
theorem dX0_dropWhiteAndNewlines_27 : decode cX0_dropWhiteAndNewlines 27 = .ok (.istore_n 3, 1) := by decide +kernel
theorem dX0_dropWhiteAndNewlines_28 : decode cX0_dropWhiteAndNewlines 28 = .ok (.iload_n 3, 1) := by decide +kernel
theorem dX0_dropWhiteAndNewlines_29 : decode cX0_dropWhiteAndNewlines 29 = .ok (.invokestatic 34, 3) := by decide +kernel
theorem dX0_dropWhiteAndNewlines_32 : decode cX0_dropWhiteAndNewlines 32 = .ok (.ifCond .ne 14, 3) := by decide +kernel
theorem dX0_dropWhiteAndNewlines_35 : decode cX0_dropWhiteAndNewlines 35 = .ok (.iload_n 3, 1) := by decide +kernel
theorem dX0_dropWhiteAndNewlines_36 : decode cX0_dropWhiteAndNewlines 36 = .ok (.bipush 10, 2) := by decide +kernel
theorem dX0_dropWhiteAndNewlines_38 : decode cX0_dropWhiteAndNewlines 38 = .ok (.if_icmp .eq 8, 3) := by decide +kernel
theorem dX0_dropWhiteAndNewlines_41 : decode cX0_dropWhiteAndNewlines 41 = .ok (.aload_n 0, 1) := by decide +kernel
theorem dX0_dropWhiteAndNewlines_42 : decode cX0_dropWhiteAndNewlines 42 = .ok (.iload_n 3, 1) := by decide +kernel
theorem dX0_dropWhiteAndNewlines_43 : decode cX0_dropWhiteAndNewlines 43 = .ok (.invokevirtual 19, 3) := by decide +kernel
theorem dX0_dropWhiteAndNewlines_46 : decode cX0_dropWhiteAndNewlines 46 = .ok (.iinc 2 1, 3) := by decide +kernel
theorem dX0_dropWhiteAndNewlines_49 : decode cX0_dropWhiteAndNewlines 49 = .ok (.goto (-37), 3) := by decide +kernel
theorem dX0_dropWhiteAndNewlines_52 : decode cX0_dropWhiteAndNewlines 52 = .ok (.return_, 1) := by decide +kernel
theorem hyX0_dropWhiteAndNewlines : yX0_dropWhiteAndNewlines.cls ≠ "java/lang/invoke/MethodHandle" ∧ yX0_dropWhiteAndNewlines.cls ≠ "java/lang/invoke/VarHandle" ∧ (parseMethodDescriptor yX0_dropWhiteAndNewlines.desc).map (fun d => d.parameters.length) = some 0 := by decide +kernel
abbrev J_X0_dropWhiteAndNewlines_12 (E : gx_E) (v0 : Nat) (v1 : Int32) (v2 : Int32) (u : gx_S) : Prop := gx_Wc E 4 12 [(0, .ref (ex_ad E v0)), (1, .int v1), (2, .int v2)] [] u
set_option maxHeartbeats 4000000 in
set_option maxRecDepth 100000 in
theorem w_X0_dropWhiteAndNewlines_0 {E : gx_E} (X : gx_X E cX0_dropWhiteAndNewlines 4 RX0 none) (hd : 1 ≤ ex_d E) {post : gx_S → Prop} (hQ : ex_Q E = va_Qv post (gx_B (ex_Z E)) (gx_A (ex_Z E))) {u : gx_S} {v0 : Nat} (h : (gx_isO v0 0 ∧ (∀ x2 : Int32, x2 = (gx_i u v0 1) → (∀ u3 : gx_S, u3 = gx_pi u v0 1 (0 : Int32) → J_X0_dropWhiteAndNewlines_12 E v0 x2 (0 : Int32) u3)))) : gx_Wc E 4 0 [(0, .ref (ex_ad E v0))] [] u := by
  refine gx_aload_n X (j := 0) dX0_dropWhiteAndNewlines_0 rfl rfl ?_
  obtain ⟨k1, h⟩ := h
  refine gx_get X k1 rfl iwX0 1 (by decide) mw_31 (v := .int (gx_i u v0 1)) rfl dX0_dropWhiteAndNewlines_1 ?_
  refine gx_nami (fun x2 ex2 => ?_)
  replace h := h x2 ex2
  refine gx_istore_n X (lv' := [(1, .int x2), (0, .ref (ex_ad E v0))]) dX0_dropWhiteAndNewlines_4 rfl (by decide) rfl ?_
  refine gx_aload_n X (j := 1) dX0_dropWhiteAndNewlines_5 rfl rfl ?_
  refine gx_iconst X (v := 0) dX0_dropWhiteAndNewlines_6 (by decide) ?_
  refine gx_put X k1 rfl iwX0 tyX0_ok nmX0 1 (by decide) mw_31 rfl rfl rfl (fun _ => rfl) dX0_dropWhiteAndNewlines_7 ?_
  refine gx_nams (fun u3 eu3 => ?_)
  replace h := h u3 eu3
  refine gx_iconst X (v := 0) dX0_dropWhiteAndNewlines_10 (by decide) ?_
  refine gx_istore_n X (lv' := [(2, .int (0 : Int32)), (1, .int x2), (0, .ref (ex_ad E v0))]) dX0_dropWhiteAndNewlines_11 rfl (by decide) rfl ?_
  exact gx_sub [2, 1, 0] rfl h
set_option maxHeartbeats 4000000 in
set_option maxRecDepth 100000 in
theorem w_X0_dropWhiteAndNewlines_12 {E : gx_E} (X : gx_X E cX0_dropWhiteAndNewlines 4 RX0 none) (hd : 1 ≤ ex_d E) {post : gx_S → Prop} (hQ : ex_Q E = va_Qv post (gx_B (ex_Z E)) (gx_A (ex_Z E))) {u : gx_S} {v0 : Nat} {v1 : Int32} {v2 : Int32} (h : ((v1 ≤ v2 → post u) ∧ (¬ v1 ≤ v2 → (gx_isO v0 0 ∧ (gx_isR (gx_r u v0 0) .byte ∧ vp_in v2 (gx_len (gx_r u v0 0)) ∧ (∀ x4 : Int32, x4 = ((gx_a u (gx_r u v0 0) v2.toNatClampNeg) &&& (255 : Int32)) → (S_X6_isWhite u x4 (fun (r6 : Int32) (u5 : gx_S) => ((¬ r6 = 0 → (∀ x7 : Int32, x7 = v2 + 1 → J_X0_dropWhiteAndNewlines_12 E v0 v1 x7 u5)) ∧ (r6 = 0 → ((x4 = (10 : Int32) → (∀ x8 : Int32, x8 = v2 + 1 → J_X0_dropWhiteAndNewlines_12 E v0 v1 x8 u5)) ∧ (¬ x4 = (10 : Int32) → (S_X0_add u5 v0 x4 (fun (u9 : gx_S) => (∀ x10 : Int32, x10 = v2 + 1 → J_X0_dropWhiteAndNewlines_12 E v0 v1 x10 u9))))))))))))))) : gx_Wc E 4 12 [(0, .ref (ex_ad E v0)), (1, .int v1), (2, .int v2)] [] u := by
  refine gx_iload_n X (j := 2) dX0_dropWhiteAndNewlines_12 rfl rfl ?_
  refine gx_iload_n X (j := 1) dX0_dropWhiteAndNewlines_13 rfl rfl ?_
  refine gx_icmp_ge X (tgt := 52) dX0_dropWhiteAndNewlines_14 (by decide) (fun c13 => ?_) (fun c13 => ?_)
  · replace h := h.1 c13
    exact gx_vret X hQ h dX0_dropWhiteAndNewlines_52
  · replace h := h.2 c13
    refine gx_aload_n X (j := 0) dX0_dropWhiteAndNewlines_17 rfl rfl ?_
    obtain ⟨k1, h⟩ := h
    refine gx_get X k1 rfl iwX0 0 (by decide) mw_30 (v := .ref (ex_ad E (gx_r u v0 0))) rfl dX0_dropWhiteAndNewlines_18 ?_
    refine gx_iload_n X (j := 2) dX0_dropWhiteAndNewlines_21 rfl rfl ?_
    obtain ⟨k2, h⟩ := h
    obtain ⟨k3, h⟩ := h
    refine gx_bald X k2 k3 dX0_dropWhiteAndNewlines_22 ?_
    refine gx_sipush X (v := 255) dX0_dropWhiteAndNewlines_23 (by decide) ?_
    refine gx_iand X dX0_dropWhiteAndNewlines_26 ?_
    refine gx_nami (fun x4 ex4 => ?_)
    replace h := h x4 ex4
    refine gx_istore_n X (lv' := [(3, .int x4), (0, .ref (ex_ad E v0)), (1, .int v1), (2, .int v2)]) dX0_dropWhiteAndNewlines_27 rfl (by decide) rfl ?_
    refine gx_iload_n X (j := 0) dX0_dropWhiteAndNewlines_28 rfl rfl ?_
    refine gx_ki (gx_rSN X (c_X6_isWhite h) (Nat.le_trans (by decide) hd) (Nat.le_trans (by decide) (Nat.mul_le_mul_left 40 hd)) mn_5 mw_185 mw_1 mw_186 hyX6_isWhite (As := [.int x4]) (rest := []) rfl rfl (Nat.le_of_ble_eq_true rfl) dX0_dropWhiteAndNewlines_29) (fun r6 u5 h => ?_)
    refine gx_if_ne X (tgt := 46) dX0_dropWhiteAndNewlines_32 (by decide) (fun c12 => ?_) (fun c12 => ?_)
    · replace h := h.1 c12
      obtain ⟨x7, ex7⟩ : ∃ y : Int32, y = v2 + 1 := ⟨_, rfl⟩
      replace h := h x7 ex7
      refine gx_iinc X (v := x7) (lv' := [(2, .int x7), (3, .int x4), (0, .ref (ex_ad E v0)), (1, .int v1)]) dX0_dropWhiteAndNewlines_46 (j := 3) rfl (by rw [ex7]; rfl) (by decide) rfl ?_
      refine gx_goto X (tgt := 12) dX0_dropWhiteAndNewlines_49 (by decide) ?_
      exact gx_sub [2, 3, 0] rfl h
    · replace h := h.2 c12
      refine gx_iload_n X (j := 0) dX0_dropWhiteAndNewlines_35 rfl rfl ?_
      refine gx_bipush X (v := 10) dX0_dropWhiteAndNewlines_36 (by decide) ?_
      refine gx_icmp_eq X (tgt := 46) dX0_dropWhiteAndNewlines_38 (by decide) (fun c11 => ?_) (fun c11 => ?_)
      · replace h := h.1 c11
        obtain ⟨x8, ex8⟩ : ∃ y : Int32, y = v2 + 1 := ⟨_, rfl⟩
        replace h := h x8 ex8
        refine gx_iinc X (v := x8) (lv' := [(2, .int x8), (3, .int x4), (0, .ref (ex_ad E v0)), (1, .int v1)]) dX0_dropWhiteAndNewlines_46 (j := 3) rfl (by rw [ex8]; rfl) (by decide) rfl ?_
        refine gx_goto X (tgt := 12) dX0_dropWhiteAndNewlines_49 (by decide) ?_
        exact gx_sub [2, 3, 0] rfl h
      · replace h := h.2 c11
        refine gx_aload_n X (j := 1) dX0_dropWhiteAndNewlines_41 rfl rfl ?_
        refine gx_iload_n X (j := 0) dX0_dropWhiteAndNewlines_42 rfl rfl ?_
        refine gx_kv (gx_rV X (c_X0_add h) (Nat.le_trans (by decide) hd) (Nat.le_trans (by decide) (Nat.mul_le_mul_left 40 hd)) k1 rfl mw_135 mw_136 mw_137 mw_2 mw_138 hyX0_add (As := [.int x4]) (rest := []) rfl rfl (Nat.le_of_ble_eq_true rfl) dX0_dropWhiteAndNewlines_43) (fun u9 h => ?_)
        obtain ⟨x10, ex10⟩ : ∃ y : Int32, y = v2 + 1 := ⟨_, rfl⟩
        replace h := h x10 ex10
        refine gx_iinc X (v := x10) (lv' := [(2, .int x10), (3, .int x4), (0, .ref (ex_ad E v0)), (1, .int v1)]) dX0_dropWhiteAndNewlines_46 (j := 3) rfl (by rw [ex10]; rfl) (by decide) rfl ?_
        refine gx_goto X (tgt := 12) dX0_dropWhiteAndNewlines_49 (by decide) ?_
        exact gx_sub [2, 3, 0] rfl h

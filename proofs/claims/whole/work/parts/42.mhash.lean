-- PlainSealModel$Hash.begin()V
theorem dX7_begin_0 : decode cX7_begin 0 = .ok (.aload_n 0, 1) := by decide +kernel
theorem dX7_begin_1 : decode cX7_begin 1 = .ok (.getfield 9, 3) := by decide +kernel
theorem dX7_begin_4 : decode cX7_begin 4 = .ok (.iconst 0, 1) := by decide +kernel
theorem dX7_begin_5 : decode cX7_begin 5 = .ok (.aload_n 0, 1) := by decide +kernel
theorem dX7_begin_6 : decode cX7_begin 6 = .ok (.getfield 13, 3) := by decide +kernel
theorem dX7_begin_9 : decode cX7_begin 9 = .ok (.iconst 0, 1) := by decide +kernel
theorem dX7_begin_10 : decode cX7_begin 10 = .ok (.bipush 8, 2) := by decide +kernel
theorem dX7_begin_12 : decode cX7_begin 12 = .ok (.invokestatic 48, 3) := by decide +kernel
theorem dX7_begin_15 : decode cX7_begin 15 = .ok (.aload_n 0, 1) := by decide +kernel
theorem dX7_begin_16 : decode cX7_begin 16 = .ok (.iconst 0, 1) := by decide +kernel
theorem dX7_begin_17 : decode cX7_begin 17 = .ok (.putfield 54, 3) := by decide +kernel
theorem dX7_begin_20 : decode cX7_begin 20 = .ok (.aload_n 0, 1) := by decide +kernel
theorem dX7_begin_21 : decode cX7_begin 21 = .ok (.lconst 0, 1) := by decide +kernel
theorem dX7_begin_22 : decode cX7_begin 22 = .ok (.putfield 58, 3) := by decide +kernel
theorem dX7_begin_25 : decode cX7_begin 25 = .ok (.return_, 1) := by decide +kernel
theorem hyX7_begin : yX7_begin.cls ≠ "java/lang/invoke/MethodHandle" ∧ yX7_begin.cls ≠ "java/lang/invoke/VarHandle" ∧ (parseMethodDescriptor yX7_begin.desc).map (fun d => d.parameters.length) = some 0 := by decide +kernel
def S_X7_begin (u : gx_S) (v0 : Nat) (post : gx_S → Prop) : Prop := (gx_isO v0 6 ∧ (gx_isR (gx_r u v0 0) .int ∧ gx_isA (gx_r u v0 1) .int ∧ ¬ (0 : Int32) < 0 ∧ ¬ (0 : Int32) < 0 ∧ ¬ (8 : Int32) < 0 ∧ (0 : Int32).toNatClampNeg + (8 : Int32).toNatClampNeg ≤ gx_len (gx_r u v0 0) ∧ (0 : Int32).toNatClampNeg + (8 : Int32).toNatClampNeg ≤ gx_len (gx_r u v0 1) ∧ ∀ u9 : gx_S, u9 = gx_pa u (gx_r u v0 1) (va_cpy (gx_a u (gx_r u v0 0)) (gx_a u (gx_r u v0 1)) (0 : Int32).toNatClampNeg (0 : Int32).toNatClampNeg (8 : Int32).toNatClampNeg) → (∀ u10 : gx_S, u10 = gx_pi u9 v0 5 (0 : Int32) → (∀ u11 : gx_S, u11 = gx_pl u10 v0 6 (0 : Int64) → post u11))))
set_option maxHeartbeats 4000000 in
set_option maxRecDepth 100000 in
theorem w_X7_begin {E : gx_E} (X : gx_X E cX7_begin 1 RX7 none) (hd : 1 ≤ ex_d E) {post : gx_S → Prop} (hQ : ex_Q E = va_Qv post (gx_B (ex_Z E)) (gx_A (ex_Z E))) {u : gx_S} {v0 : Nat} (h : S_X7_begin u v0 post) : gx_Wc E 1 0 [(0, .ref (ex_ad E v0))] [] u := by
  unfold S_X7_begin at h
  refine gx_aload_n X (j := 0) dX7_begin_0 rfl rfl ?_
  obtain ⟨k1, h⟩ := h
  refine gx_get X k1 rfl iwX7 0 (by decide) mw_499 (v := .ref (ex_ad E (gx_r u v0 0))) rfl dX7_begin_1 ?_
  refine gx_iconst X (v := 0) dX7_begin_4 (by decide) ?_
  refine gx_aload_n X (j := 0) dX7_begin_5 rfl rfl ?_
  refine gx_get X k1 rfl iwX7 1 (by decide) mw_500 (v := .ref (ex_ad E (gx_r u v0 1))) rfl dX7_begin_6 ?_
  refine gx_iconst X (v := 0) dX7_begin_9 (by decide) ?_
  refine gx_bipush X (v := 8) dX7_begin_10 (by decide) ?_
  obtain ⟨k2, h⟩ := h
  obtain ⟨k3, h⟩ := h
  obtain ⟨k4, k5, k6, k7, k8, h⟩ := h
  refine gx_copy X (Nat.le_trans (by decide) hd) k2 k3 rfl k4 k5 k6 k7 k8 mw_726 mw_339 mw_338 mw_12 (Nat.le_of_ble_eq_true rfl) dX7_begin_12 ?_
  refine gx_nams (fun u9 eu9 => ?_)
  replace h := h u9 eu9
  refine gx_aload_n X (j := 0) dX7_begin_15 rfl rfl ?_
  refine gx_iconst X (v := 0) dX7_begin_16 (by decide) ?_
  refine gx_put X k1 rfl iwX7 tyX7_ok nmX7 5 (by decide) mw_504 rfl rfl rfl (fun _ => rfl) dX7_begin_17 ?_
  refine gx_nams (fun u10 eu10 => ?_)
  replace h := h u10 eu10
  refine gx_aload_n X (j := 0) dX7_begin_20 rfl rfl ?_
  refine gx_lconst X (v := 0) dX7_begin_21 (by decide) ?_
  refine gx_putl X k1 rfl iwX7 tyX7_ok nmX7 6 (by decide) mw_505 rfl rfl rfl (fun _ => rfl) dX7_begin_22 ?_
  refine gx_nams (fun u11 eu11 => ?_)
  replace h := h u11 eu11
  exact gx_vret X hQ h dX7_begin_25
theorem c_X7_begin {l : Launch} {Z : gx_Z} {u : gx_S} {v0 : Nat} {post : gx_S → Prop} (h : S_X7_begin u v0 post) : Met l yX7_begin (Cond.code yX7_begin cX7_begin 1 none :: gx_TB) (gx_rm 1) (gx_Pre Z u [.ref (Z.2.1 v0)]) (va_Qv post (gx_B Z) (gx_A Z)) 0 0 (gx_A Z) := by
  refine gx_met (by decide +kernel) (Nat.le_of_ble_eq_true rfl) ?_
  intro E X hZ hQ hD hL
  subst hZ
  exact w_X7_begin X (Nat.le_of_eq hD.symm) hQ h
-- PlainSealModel$Hash.one(I)V
theorem dX7_one_0 : decode cX7_one 0 = .ok (.aload_n 0, 1) := by decide +kernel
theorem dX7_one_1 : decode cX7_one 1 = .ok (.getfield 22, 3) := by decide +kernel
theorem dX7_one_4 : decode cX7_one 4 = .ok (.aload_n 0, 1) := by decide +kernel
theorem dX7_one_5 : decode cX7_one 5 = .ok (.getfield 54, 3) := by decide +kernel
theorem dX7_one_8 : decode cX7_one 8 = .ok (.iload_n 1, 1) := by decide +kernel
theorem dX7_one_9 : decode cX7_one 9 = .ok (.i2b, 1) := by decide +kernel
theorem dX7_one_10 : decode cX7_one 10 = .ok (.bastore, 1) := by decide +kernel
theorem dX7_one_11 : decode cX7_one 11 = .ok (.aload_n 0, 1) := by decide +kernel
theorem dX7_one_12 : decode cX7_one 12 = .ok (.dup, 1) := by decide +kernel
theorem dX7_one_13 : decode cX7_one 13 = .ok (.getfield 54, 3) := by decide +kernel
theorem dX7_one_16 : decode cX7_one 16 = .ok (.iconst 1, 1) := by decide +kernel
theorem dX7_one_17 : decode cX7_one 17 = .ok (.iadd, 1) := by decide +kernel
theorem dX7_one_18 : decode cX7_one 18 = .ok (.putfield 54, 3) := by decide +kernel
theorem dX7_one_21 : decode cX7_one 21 = .ok (.aload_n 0, 1) := by decide +kernel
theorem dX7_one_22 : decode cX7_one 22 = .ok (.dup, 1) := by decide +kernel
theorem dX7_one_23 : decode cX7_one 23 = .ok (.getfield 58, 3) := by decide +kernel
theorem dX7_one_26 : decode cX7_one 26 = .ok (.lconst 1, 1) := by decide +kernel
theorem dX7_one_27 : decode cX7_one 27 = .ok (.ladd, 1) := by decide +kernel
theorem dX7_one_28 : decode cX7_one 28 = .ok (.putfield 58, 3) := by decide +kernel
theorem dX7_one_31 : decode cX7_one 31 = .ok (.aload_n 0, 1) := by decide +kernel
theorem dX7_one_32 : decode cX7_one 32 = .ok (.getfield 54, 3) := by decide +kernel
theorem dX7_one_35 : decode cX7_one 35 = .ok (.bipush 64, 2) := by decide +kernel
theorem dX7_one_37 : decode cX7_one 37 = .ok (.if_icmp .ge 4, 3) := by decide +kernel
theorem dX7_one_40 : decode cX7_one 40 = .ok (.return_, 1) := by decide +kernel
theorem dX7_one_41 : decode cX7_one 41 = .ok (.aload_n 0, 1) := by decide +kernel
theorem dX7_one_42 : decode cX7_one 42 = .ok (.invokevirtual 62, 3) := by decide +kernel
theorem dX7_one_45 : decode cX7_one 45 = .ok (.aload_n 0, 1) := by decide +kernel
theorem dX7_one_46 : decode cX7_one 46 = .ok (.iconst 0, 1) := by decide +kernel
theorem dX7_one_47 : decode cX7_one 47 = .ok (.putfield 54, 3) := by decide +kernel
theorem dX7_one_50 : decode cX7_one 50 = .ok (.return_, 1) := by decide +kernel
theorem hyX7_one : yX7_one.cls ≠ "java/lang/invoke/MethodHandle" ∧ yX7_one.cls ≠ "java/lang/invoke/VarHandle" ∧ (parseMethodDescriptor yX7_one.desc).map (fun d => d.parameters.length) = some 1 := by decide +kernel
def S_X7_one (u : gx_S) (v0 : Nat) (v1 : Int32) (post : gx_S → Prop) : Prop := (gx_isO v0 6 ∧ (gx_isA (gx_r u v0 4) .byte ∧ vp_in (gx_i u v0 5) (gx_len (gx_r u v0 4)) ∧ ∀ u4 : gx_S, u4 = gx_pa u (gx_r u v0 4) (upd (gx_a u (gx_r u v0 4)) (gx_i u v0 5).toNatClampNeg ((v1).toInt8.toInt32).toInt8.toInt32) → (∀ u5 : gx_S, u5 = gx_pi u4 v0 5 ((gx_i u4 v0 5) + (1 : Int32)) → (∀ u6 : gx_S, u6 = gx_pl u5 v0 6 ((gx_l u5 v0 6) + (1 : Int64)) → (((64 : Int32) ≤ (gx_i u6 v0 5) → (S_X7_round u6 v0 (fun (u7 : gx_S) => (∀ u8 : gx_S, u8 = gx_pi u7 v0 5 (0 : Int32) → post u8)))) ∧ (¬ (64 : Int32) ≤ (gx_i u6 v0 5) → post u6))))))
set_option maxHeartbeats 4000000 in
set_option maxRecDepth 100000 in
theorem w_X7_one {E : gx_E} (X : gx_X E cX7_one 2 RX7 none) (hd : 2 ≤ ex_d E) {post : gx_S → Prop} (hQ : ex_Q E = va_Qv post (gx_B (ex_Z E)) (gx_A (ex_Z E))) {u : gx_S} {v0 : Nat} {v1 : Int32} (h : S_X7_one u v0 v1 post) : gx_Wc E 2 0 [(0, .ref (ex_ad E v0)), (1, .int v1)] [] u := by
  unfold S_X7_one at h
  refine gx_aload_n X (j := 0) dX7_one_0 rfl rfl ?_
  obtain ⟨k1, h⟩ := h
  refine gx_get X k1 rfl iwX7 4 (by decide) mw_503 (v := .ref (ex_ad E (gx_r u v0 4))) rfl dX7_one_1 ?_
  refine gx_aload_n X (j := 0) dX7_one_4 rfl rfl ?_
  refine gx_get X k1 rfl iwX7 5 (by decide) mw_504 (v := .int (gx_i u v0 5)) rfl dX7_one_5 ?_
  refine gx_iload_n X (j := 1) dX7_one_8 rfl rfl ?_
  refine gx_i2b X (v := (v1).toInt8.toInt32) dX7_one_9 rfl ?_
  obtain ⟨k2, h⟩ := h
  obtain ⟨k3, h⟩ := h
  refine gx_bast X k2 k3 dX7_one_10 ?_
  refine gx_nams (fun u4 eu4 => ?_)
  replace h := h u4 eu4
  refine gx_aload_n X (j := 0) dX7_one_11 rfl rfl ?_
  refine gx_dup X dX7_one_12 rfl ?_
  refine gx_get X k1 rfl iwX7 5 (by decide) mw_504 (v := .int (gx_i u4 v0 5)) rfl dX7_one_13 ?_
  refine gx_iconst X (v := 1) dX7_one_16 (by decide) ?_
  refine gx_iadd X dX7_one_17 ?_
  refine gx_put X k1 rfl iwX7 tyX7_ok nmX7 5 (by decide) mw_504 rfl rfl rfl (fun _ => rfl) dX7_one_18 ?_
  refine gx_nams (fun u5 eu5 => ?_)
  replace h := h u5 eu5
  refine gx_aload_n X (j := 0) dX7_one_21 rfl rfl ?_
  refine gx_dup X dX7_one_22 rfl ?_
  refine gx_get X k1 rfl iwX7 6 (by decide) mw_505 (v := .long (gx_l u5 v0 6)) rfl dX7_one_23 ?_
  refine gx_lconst X (v := 1) dX7_one_26 (by decide) ?_
  refine gx_ladd X dX7_one_27 ?_
  refine gx_putl X k1 rfl iwX7 tyX7_ok nmX7 6 (by decide) mw_505 rfl rfl rfl (fun _ => rfl) dX7_one_28 ?_
  refine gx_nams (fun u6 eu6 => ?_)
  replace h := h u6 eu6
  refine gx_aload_n X (j := 0) dX7_one_31 rfl rfl ?_
  refine gx_get X k1 rfl iwX7 5 (by decide) mw_504 (v := .int (gx_i u6 v0 5)) rfl dX7_one_32 ?_
  refine gx_bipush X (v := 64) dX7_one_35 (by decide) ?_
  refine gx_icmp_ge X (tgt := 41) dX7_one_37 (by decide) (fun c9 => ?_) (fun c9 => ?_)
  · replace h := h.1 c9
    refine gx_aload_n X (j := 0) dX7_one_41 rfl rfl ?_
    refine gx_kv (gx_rV X (c_X7_round h) (Nat.le_trans (by decide) hd) (Nat.le_trans (by decide) (Nat.mul_le_mul_left 40 hd)) k1 rfl mw_735 mw_737 mp_19 mw_10 mw_738 hyX7_round (As := []) (rest := []) rfl rfl (Nat.le_of_ble_eq_true rfl) dX7_one_42) (fun u7 h => ?_)
    refine gx_aload_n X (j := 0) dX7_one_45 rfl rfl ?_
    refine gx_iconst X (v := 0) dX7_one_46 (by decide) ?_
    refine gx_put X k1 rfl iwX7 tyX7_ok nmX7 5 (by decide) mw_504 rfl rfl rfl (fun _ => rfl) dX7_one_47 ?_
    refine gx_nams (fun u8 eu8 => ?_)
    replace h := h u8 eu8
    exact gx_vret X hQ h dX7_one_50
  · replace h := h.2 c9
    exact gx_vret X hQ h dX7_one_40
theorem c_X7_one {l : Launch} {Z : gx_Z} {u : gx_S} {v0 : Nat} {v1 : Int32} {post : gx_S → Prop} (h : S_X7_one u v0 v1 post) : Met l yX7_one (Cond.code yX7_one cX7_one 2 none :: gx_TB) (gx_rm 2) (gx_Pre Z u [.ref (Z.2.1 v0), .int v1]) (va_Qv post (gx_B Z) (gx_A Z)) 0 0 (gx_A Z) := by
  refine gx_met (by decide +kernel) (Nat.le_of_ble_eq_true rfl) ?_
  intro E X hZ hQ hD hL
  subst hZ
  exact w_X7_one X (Nat.le_of_eq hD.symm) hQ h
-- PlainSealModel$Hash.add([BII)V
theorem dX7_add_0 : decode cX7_add 0 = .ok (.iload_n 2, 1) := by decide +kernel
theorem dX7_add_1 : decode cX7_add 1 = .ok (.istore 4, 2) := by decide +kernel
theorem dX7_add_3 : decode cX7_add 3 = .ok (.iload 4, 2) := by decide +kernel
theorem dX7_add_5 : decode cX7_add 5 = .ok (.iload_n 2, 1) := by decide +kernel
theorem dX7_add_6 : decode cX7_add 6 = .ok (.iload_n 3, 1) := by decide +kernel
theorem dX7_add_7 : decode cX7_add 7 = .ok (.iadd, 1) := by decide +kernel
theorem dX7_add_8 : decode cX7_add 8 = .ok (.if_icmp .ge 17, 3) := by decide +kernel
theorem dX7_add_11 : decode cX7_add 11 = .ok (.aload_n 0, 1) := by decide +kernel
theorem dX7_add_12 : decode cX7_add 12 = .ok (.aload_n 1, 1) := by decide +kernel
theorem dX7_add_13 : decode cX7_add 13 = .ok (.iload 4, 2) := by decide +kernel
theorem dX7_add_15 : decode cX7_add 15 = .ok (.baload, 1) := by decide +kernel
theorem dX7_add_16 : decode cX7_add 16 = .ok (.invokevirtual 65, 3) := by decide +kernel
theorem dX7_add_19 : decode cX7_add 19 = .ok (.iinc 4 1, 3) := by decide +kernel
theorem dX7_add_22 : decode cX7_add 22 = .ok (.goto (-19), 3) := by decide +kernel
theorem dX7_add_25 : decode cX7_add 25 = .ok (.return_, 1) := by decide +kernel
theorem hyX7_add : yX7_add.cls ≠ "java/lang/invoke/MethodHandle" ∧ yX7_add.cls ≠ "java/lang/invoke/VarHandle" ∧ (parseMethodDescriptor yX7_add.desc).map (fun d => d.parameters.length) = some 3 := by decide +kernel
abbrev J_X7_add_3 (E : gx_E) (v0 : Nat) (v1 : Nat) (v2 : Int32) (v3 : Int32) (v4 : Int32) (u : gx_S) : Prop := gx_Wc E 5 3 [(0, .ref (ex_ad E v0)), (1, .ref (ex_ad E v1)), (2, .int v2), (3, .int v3), (4, .int v4)] [] u
set_option maxHeartbeats 4000000 in
set_option maxRecDepth 100000 in
theorem w_X7_add_0 {E : gx_E} (X : gx_X E cX7_add 5 RX7 none) (hd : 3 ≤ ex_d E) {post : gx_S → Prop} (hQ : ex_Q E = va_Qv post (gx_B (ex_Z E)) (gx_A (ex_Z E))) {u : gx_S} {v0 : Nat} {v1 : Nat} {v2 : Int32} {v3 : Int32} (h : J_X7_add_3 E v0 v1 v2 v3 v2 u) : gx_Wc E 5 0 [(0, .ref (ex_ad E v0)), (1, .ref (ex_ad E v1)), (2, .int v2), (3, .int v3)] [] u := by
  refine gx_iload_n X (j := 2) dX7_add_0 rfl rfl ?_
  refine gx_istore X (lv' := [(4, .int v2), (0, .ref (ex_ad E v0)), (1, .ref (ex_ad E v1)), (2, .int v2), (3, .int v3)]) dX7_add_1 (by decide) rfl ?_
  exact gx_sub [1, 2, 3, 4, 0] rfl h
set_option maxHeartbeats 4000000 in
set_option maxRecDepth 100000 in
theorem w_X7_add_3 {E : gx_E} (X : gx_X E cX7_add 5 RX7 none) (hd : 3 ≤ ex_d E) {post : gx_S → Prop} (hQ : ex_Q E = va_Qv post (gx_B (ex_Z E)) (gx_A (ex_Z E))) {u : gx_S} {v0 : Nat} {v1 : Nat} {v2 : Int32} {v3 : Int32} {v4 : Int32} (h : (((v2 + v3) ≤ v4 → post u) ∧ (¬ (v2 + v3) ≤ v4 → (gx_isR v1 .byte ∧ vp_in v4 (gx_len v1) ∧ (gx_isO v0 6 ∧ S_X7_one u v0 (gx_a u v1 v4.toNatClampNeg) (fun (u4 : gx_S) => (∀ x5 : Int32, x5 = v4 + 1 → J_X7_add_3 E v0 v1 v2 v3 x5 u4))))))) : gx_Wc E 5 3 [(0, .ref (ex_ad E v0)), (1, .ref (ex_ad E v1)), (2, .int v2), (3, .int v3), (4, .int v4)] [] u := by
  refine gx_iload X (j := 4) dX7_add_3 rfl ?_
  refine gx_iload_n X (j := 2) dX7_add_5 rfl rfl ?_
  refine gx_iload_n X (j := 3) dX7_add_6 rfl rfl ?_
  refine gx_iadd X dX7_add_7 ?_
  refine gx_icmp_ge X (tgt := 25) dX7_add_8 (by decide) (fun c6 => ?_) (fun c6 => ?_)
  · replace h := h.1 c6
    exact gx_vret X hQ h dX7_add_25
  · replace h := h.2 c6
    refine gx_aload_n X (j := 0) dX7_add_11 rfl rfl ?_
    refine gx_aload_n X (j := 1) dX7_add_12 rfl rfl ?_
    refine gx_iload X (j := 4) dX7_add_13 rfl ?_
    obtain ⟨k1, h⟩ := h
    obtain ⟨k2, h⟩ := h
    refine gx_bald X k1 k2 dX7_add_15 ?_
    obtain ⟨k3, h⟩ := h
    refine gx_kv (gx_rV X (c_X7_one h) (Nat.le_trans (by decide) hd) (Nat.le_trans (by decide) (Nat.mul_le_mul_left 40 hd)) k3 rfl mw_731 mw_732 mw_733 mw_10 mw_734 hyX7_one (As := [.int (gx_a u v1 v4.toNatClampNeg)]) (rest := []) rfl rfl (Nat.le_of_ble_eq_true rfl) dX7_add_16) (fun u4 h => ?_)
    obtain ⟨x5, ex5⟩ : ∃ y : Int32, y = v4 + 1 := ⟨_, rfl⟩
    replace h := h x5 ex5
    refine gx_iinc X (v := x5) (lv' := [(4, .int x5), (0, .ref (ex_ad E v0)), (1, .ref (ex_ad E v1)), (2, .int v2), (3, .int v3)]) dX7_add_19 (j := 4) rfl (by rw [ex5]; rfl) (by decide) rfl ?_
    refine gx_goto X (tgt := 3) dX7_add_22 (by decide) ?_
    exact gx_sub [1, 2, 3, 4, 0] rfl h
-- PlainSealModel$Hash.four(I)V
theorem dX7_four_0 : decode cX7_four 0 = .ok (.bipush 24, 2) := by decide +kernel
theorem dX7_four_2 : decode cX7_four 2 = .ok (.istore_n 2, 1) := by decide +kernel
theorem dX7_four_3 : decode cX7_four 3 = .ok (.iload_n 2, 1) := by decide +kernel
theorem dX7_four_4 : decode cX7_four 4 = .ok (.ifCond .lt 16, 3) := by decide +kernel
theorem dX7_four_7 : decode cX7_four 7 = .ok (.aload_n 0, 1) := by decide +kernel
theorem dX7_four_8 : decode cX7_four 8 = .ok (.iload_n 1, 1) := by decide +kernel
theorem dX7_four_9 : decode cX7_four 9 = .ok (.iload_n 2, 1) := by decide +kernel
theorem dX7_four_10 : decode cX7_four 10 = .ok (.ishr, 1) := by decide +kernel
theorem dX7_four_11 : decode cX7_four 11 = .ok (.invokevirtual 65, 3) := by decide +kernel
theorem dX7_four_14 : decode cX7_four 14 = .ok (.iinc 2 (-8), 3) := by decide +kernel
theorem dX7_four_17 : decode cX7_four 17 = .ok (.goto (-14), 3) := by decide +kernel
theorem dX7_four_20 : decode cX7_four 20 = .ok (.return_, 1) := by decide +kernel
theorem hyX7_four : yX7_four.cls ≠ "java/lang/invoke/MethodHandle" ∧ yX7_four.cls ≠ "java/lang/invoke/VarHandle" ∧ (parseMethodDescriptor yX7_four.desc).map (fun d => d.parameters.length) = some 1 := by decide +kernel
abbrev J_X7_four_3 (E : gx_E) (v0 : Nat) (v1 : Int32) (v2 : Int32) (u : gx_S) : Prop := gx_Wc E 3 3 [(0, .ref (ex_ad E v0)), (1, .int v1), (2, .int v2)] [] u
set_option maxHeartbeats 4000000 in
set_option maxRecDepth 100000 in
theorem w_X7_four_0 {E : gx_E} (X : gx_X E cX7_four 3 RX7 none) (hd : 3 ≤ ex_d E) {post : gx_S → Prop} (hQ : ex_Q E = va_Qv post (gx_B (ex_Z E)) (gx_A (ex_Z E))) {u : gx_S} {v0 : Nat} {v1 : Int32} (h : J_X7_four_3 E v0 v1 (24 : Int32) u) : gx_Wc E 3 0 [(0, .ref (ex_ad E v0)), (1, .int v1)] [] u := by
  refine gx_bipush X (v := 24) dX7_four_0 (by decide) ?_
  refine gx_istore_n X (lv' := [(2, .int (24 : Int32)), (0, .ref (ex_ad E v0)), (1, .int v1)]) dX7_four_2 rfl (by decide) rfl ?_
  exact gx_sub [1, 2, 0] rfl h
set_option maxHeartbeats 4000000 in
set_option maxRecDepth 100000 in
theorem w_X7_four_3 {E : gx_E} (X : gx_X E cX7_four 3 RX7 none) (hd : 3 ≤ ex_d E) {post : gx_S → Prop} (hQ : ex_Q E = va_Qv post (gx_B (ex_Z E)) (gx_A (ex_Z E))) {u : gx_S} {v0 : Nat} {v1 : Int32} {v2 : Int32} (h : ((v2 < 0 → post u) ∧ (¬ v2 < 0 → (gx_isO v0 6 ∧ S_X7_one u v0 (v1 >>> (v2 &&& 31)) (fun (u2 : gx_S) => (∀ x3 : Int32, x3 = v2 + (-8) → J_X7_four_3 E v0 v1 x3 u2)))))) : gx_Wc E 3 3 [(0, .ref (ex_ad E v0)), (1, .int v1), (2, .int v2)] [] u := by
  refine gx_iload_n X (j := 2) dX7_four_3 rfl rfl ?_
  refine gx_if_lt X (tgt := 20) dX7_four_4 (by decide) (fun c4 => ?_) (fun c4 => ?_)
  · replace h := h.1 c4
    exact gx_vret X hQ h dX7_four_20
  · replace h := h.2 c4
    refine gx_aload_n X (j := 0) dX7_four_7 rfl rfl ?_
    refine gx_iload_n X (j := 1) dX7_four_8 rfl rfl ?_
    refine gx_iload_n X (j := 2) dX7_four_9 rfl rfl ?_
    refine gx_ishr X dX7_four_10 ?_
    obtain ⟨k1, h⟩ := h
    refine gx_kv (gx_rV X (c_X7_one h) (Nat.le_trans (by decide) hd) (Nat.le_trans (by decide) (Nat.mul_le_mul_left 40 hd)) k1 rfl mw_731 mw_732 mw_733 mw_10 mw_734 hyX7_one (As := [.int (v1 >>> (v2 &&& 31))]) (rest := []) rfl rfl (Nat.le_of_ble_eq_true rfl) dX7_four_11) (fun u2 h => ?_)
    obtain ⟨x3, ex3⟩ : ∃ y : Int32, y = v2 + (-8) := ⟨_, rfl⟩
    replace h := h x3 ex3
    refine gx_iinc X (v := x3) (lv' := [(2, .int x3), (0, .ref (ex_ad E v0)), (1, .int v1)]) dX7_four_14 (j := 2) rfl (by rw [ex3]; rfl) (by decide) rfl ?_
    refine gx_goto X (tgt := 3) dX7_four_17 (by decide) ?_
    exact gx_sub [1, 2, 0] rfl h
-- the stream of bytes that a hash has taken
def sx (HC K : Nat → Int32) (S : List Nat) : Nat → (Nat → Int32)
  | 0 => HC
  | b + 1 => blk (sx HC K S b) K (schF (wd16 (fun j => ch S (64 * b + j))) 48)
theorem sx_cg {HC K : Nat → Int32} {S R : List Nat} : ∀ b, (∀ k, k < 64 * b → ch S k = ch R k) → ∀ j, j < 8 → sx HC K S b j = sx HC K R b j
  | 0, _, _, _ => rfl
  | b + 1, h, j, hj => by
    unfold sx
    refine blk_cg (sx_cg b (fun k hk => h k (by omega))) (fun _ _ => rfl) (fun i hi => ?_) j hj
    refine schF_cg (fun i hi => ?_) 48 i (by omega)
    unfold wd16 wd4
    dsimp only
    rw [h (64 * b + 4 * i) (by omega), h (64 * b + (4 * i + 1)) (by omega), h (64 * b + (4 * i + 2)) (by omega), h (64 * b + (4 * i + 3)) (by omega)]
def hS (u : gx_S) (HC K : Nat → Int32) (S : List Nat) : Prop := S.length < 2 ^ 20 ∧ okL S ∧ gx_i u 27 5 = nI (S.length % 64) ∧ gx_l u 27 6 = lz S.length ∧ (∀ j, j < 8 → gx_a u 48 j = sx HC K S (S.length / 64) j) ∧ (∀ j, j < S.length % 64 → gx_a u 51 j = sb_b (ch S (64 * (S.length / 64) + j))) ∧ ∀ j, j < 64 → gx_a u 50 j = K j
theorem okL_push {S : List Nat} {c : Nat} (h : okL S) (hc : c < 256) : okL (S ++ [c]) := fun x hx => by
  rcases List.mem_append.mp hx with hx | hx
  · exact h x hx
  · simp at hx; omega
theorem i_X7_one {u : gx_S} {t c : Nat} {HC K : Nat → Int32} {S : List Nat} {x : Int32} {post : gx_S → Prop} (hf : mfix t u) (hS' : hS u HC K S) (hl : S.length + 1 < 2 ^ 20) (hc : c < 256) (hx : x.toInt8.toInt32 = sb_b c) (h : ∀ v, exG [48, 49, 51] [(27, 5)] u v → hS v HC K (S ++ [c]) → post v) : S_X7_one u 27 x post := by
  obtain ⟨h1, h2, h3, h4, h5, h6, h7⟩ := hS'
  have hm : S.length % 64 < 64 := Nat.mod_lt _ (by omega)
  unfold S_X7_one
  rw [show gx_r u 27 4 = 51 from hf 27 4 (by decide) (by decide), h3, nI_clamp (by omega), hx, byte_sb hc]
  refine ⟨isO27, isA51, in51 hm, fun u4 e4 u5 e5 u6 e6 => ?_⟩
  have x6 : exG [48, 49, 51] [(27, 5)] u u6 := exG_tr (v := u4) (by rw [e4]; exact exG_pa _ _ (by simp)) (exG_tr (v := u5) (by rw [e5]; exact exG_pi _ _ (by simp)) (by rw [e6]; exact exG_pl _ _))
  have i6 : gx_i u6 27 5 = nI (S.length % 64 + 1) := by
    have : gx_i u6 27 5 = gx_i u 27 5 + 1 := by subst e6 e5 e4; rfl
    rw [this, h3, nI_1]
  have l6 : gx_l u6 27 6 = lz ((S.length + 1 : Nat)) := by
    have : gx_l u6 27 6 = gx_l u 27 6 + 1 := by subst e6 e5 e4; rfl
    rw [this, h4, show (1 : Int64) = lz 1 from rfl, lz_add]
    rfl
  have a51 : gx_a u6 51 = upd (gx_a u 51) (S.length % 64) (sb_b c) := by subst e6 e5 e4; rfl
  have ok := okL_push h2 hc
  have hd := Nat.div_add_mod S.length 64
  have blk51 : ∀ j, j < S.length % 64 + 1 → gx_a u6 51 j = sb_b (ch (S ++ [c]) (64 * (S.length / 64) + j)) := fun j hj => by
    rw [a51]
    by_cases e : j = S.length % 64
    · rw [e, pk_us, hd, ch_app_hi (Nat.le_refl _), Nat.sub_self]
      rfl
    · rw [pk_un e, h6 j (by omega), ch_app_lo (by omega)]
  have hst : ∀ j, j < 8 → gx_a u6 48 j = sx HC K (S ++ [c]) (S.length / 64) j := fun j hj => by
    have : gx_a u6 48 = gx_a u 48 := by subst e6 e5 e4; rfl
    rw [this, h5 j hj]
    exact sx_cg _ (fun k hk => (ch_app_lo (by omega)).symm) j hj
  have hk : ∀ j, j < 64 → gx_a u6 50 j = K j := fun j hj => by rw [x6.2.2 50 (by decide)]; exact h7 j hj
  have f6 := exG_mfix x6 hf
  rw [i6, show (64 : Int32) = nI 64 from rfl, nI_leI (by omega) (by omega)]
  refine ⟨fun q => ?_, fun q => ?_⟩
  · have q64 : S.length % 64 + 1 = 64 := by omega
    refine ⟨rfl, t, sx HC K (S ++ [c]) (S.length / 64), K, fun j => ch (S ++ [c]) (64 * (S.length / 64) + j), f6, hst, hk, fun j hj => ⟨blk51 j (by omega), ch_lt ok (by rw [len_push]; omega)⟩, fun v xv mv => ?_⟩
    intro u8 e8
    have x8 : exG [48, 49, 51] [(27, 5)] u6 u8 := exG_tr (exG_wk (exA_G xv) (by simp) (by simp)) (by rw [e8]; exact exG_pi _ _ (by simp))
    have em : (S.length + 1) % 64 = 0 := by omega
    have ed : (S.length + 1) / 64 = S.length / 64 + 1 := by omega
    refine h u8 (exG_tr x6 x8) ⟨by rw [len_push]; omega, ok, ?_, ?_, ?_, ?_, ?_⟩
    · rw [e8, gx_i_pi, if_pos ⟨rfl, rfl⟩, len_push, em]; rfl
    · rw [e8, gx_l_pi, exA_l xv, len_push]; exact l6
    · intro j hj
      rw [len_push, ed, e8, gx_a_pi, mv j hj]
      rfl
    · intro j hj
      rw [len_push, em] at hj
      omega
    · intro j hj
      rw [x8.2.2 50 (by decide)]
      exact hk j hj
  · have em : (S.length + 1) % 64 = S.length % 64 + 1 := by omega
    have ed : (S.length + 1) / 64 = S.length / 64 := by omega
    refine h u6 x6 ⟨by rw [len_push]; omega, ok, ?_, ?_, ?_, ?_, hk⟩
    · rw [len_push, em]; exact i6
    · rw [len_push]; exact l6
    · rw [len_push, ed]; exact hst
    · rw [len_push, em, ed]; exact blk51
theorem S_nil {u : gx_S} {HC K : Nat → Int32} (h1 : gx_i u 27 5 = 0) (h2 : gx_l u 27 6 = 0) (h3 : ∀ j, j < 8 → gx_a u 48 j = HC j) (h4 : ∀ j, j < 64 → gx_a u 50 j = K j) : hS u HC K [] := ⟨by decide, fun c hc => absurd hc List.not_mem_nil, h1, h2, h3, fun j hj => absurd hj (by simp), h4⟩
def exH (u v : gx_S) : Prop := exG [48, 49, 51] [(27, 5)] u v
-- add
def S_X7_add (u : gx_S) (v0 v1 : Nat) (v2 v3 : Int32) (post : gx_S → Prop) : Prop := v0 = 27 ∧ v1 = 28 ∧ v2 = 0 ∧ ∃ (t : Nat) (HC K : Nat → Int32) (T : List Nat), mfix t u ∧ hS u HC K [] ∧ rdb T (gx_a u 28) ∧ T.length ≤ 2000 ∧ v3 = nI T.length ∧ ∀ v, exH u v → hS v HC K T → post v
theorem w_X7_add {E : gx_E} (X : gx_X E cX7_add 5 RX7 none) (hd : 3 ≤ ex_d E) {post : gx_S → Prop} (hQ : ex_Q E = va_Qv post (gx_B (ex_Z E)) (gx_A (ex_Z E))) {u : gx_S} {v0 v1 : Nat} {v2 v3 : Int32} (h : S_X7_add u v0 v1 v2 v3 post) : gx_Wc E 5 0 [(0, .ref (ex_ad E v0)), (1, .ref (ex_ad E v1)), (2, .int v2), (3, .int v3)] [] u := by
  obtain ⟨rfl, rfl, rfl, t, HC, K, T, hf0, hs0, hT, hl, rfl, hp⟩ := h
  have lp : ∀ (n i : Nat) (v : gx_S), T.length - i = n → i ≤ T.length → exH u v → hS v HC K (T.take i) → J_X7_add_3 E 27 28 0 (nI T.length) (nI i) v := by
    intro n
    induction n with
    | zero =>
      intro i v hn hi hx hs
      refine w_X7_add_3 X hd hQ ⟨fun _ => hp v hx ?_, fun q => absurd ?_ q⟩
      · rwa [show i = T.length by omega, List.take_length] at hs
      · rw [show (0 : Int32) = nI 0 from rfl, nI_add, Nat.zero_add]; exact nI_le (by omega) (by omega)
    | succ n ih =>
      intro i v hn hi hx hs
      have hf := exG_mfix hx hf0
      have hc := ch_lt hT.1 (j := i) (by omega)
      refine w_X7_add_3 X hd hQ ⟨fun q => absurd q ?_, fun _ => ?_⟩
      · rw [show (0 : Int32) = nI 0 from rfl, nI_add, Nat.zero_add]; exact nI_ge (by omega) (by omega)
      · rw [nI_clamp (by omega), hx.2.2 28 (by decide), hT.2 i (by omega)]
        refine ⟨isA28.r, in28 (by omega), isO27, i_X7_one hf hs (by rw [List.length_take]; omega) hc (byte_sb hc) (fun w xw mw => ?_)⟩
        rintro x rfl
        rw [nI_1]
        have e : T.take i ++ [ch T i] = T.take (i + 1) := by simpa using st_push (M := T) (p := 0) (i := i) (by omega) (by omega)
        rw [e] at mw
        exact ih (i + 1) w (by omega) (by omega) (exG_tr hx xw) mw
  exact w_X7_add_0 X hd hQ (lp T.length 0 u rfl (by omega) (exG_rf _ _ _) hs0)
theorem c_X7_add {l : Launch} {Z : gx_Z} {u : gx_S} {v0 : Nat} {v1 : Nat} {v2 : Int32} {v3 : Int32} {post : gx_S → Prop} (h : S_X7_add u v0 v1 v2 v3 post) : Met l yX7_add (Cond.code yX7_add cX7_add 5 none :: gx_TB) (gx_rm 3) (gx_Pre Z u [.ref (Z.2.1 v0), .ref (Z.2.1 v1), .int v2, .int v3]) (va_Qv post (gx_B Z) (gx_A Z)) 0 0 (gx_A Z) := by
  refine gx_met (by decide +kernel) (Nat.le_of_ble_eq_true rfl) ?_
  intro E X hZ hQ hD hL
  subst hZ
  exact w_X7_add X (Nat.le_of_eq hD.symm) hQ h
-- four
def S_X7_four (u : gx_S) (v0 : Nat) (v1 : Int32) (post : gx_S → Prop) : Prop := v0 = 27 ∧ ∃ (t : Nat) (HC K : Nat → Int32) (S : List Nat), mfix t u ∧ hS u HC K S ∧ S.length + 4 < 2 ^ 20 ∧ ∀ v, exH u v → hS v HC K (S ++ wB v1) → post v
theorem st_X7_four {E : gx_E} (X : gx_X E cX7_four 3 RX7 none) (hd : 3 ≤ ex_d E) {post : gx_S → Prop} (hQ : ex_Q E = va_Qv post (gx_B (ex_Z E)) (gx_A (ex_Z E))) {u : gx_S} {t k : Nat} {HC K : Nat → Int32} {S : List Nat} {x : Int32} (hf : mfix t u) (hs : hS u HC K S) (hl : S.length + 1 < 2 ^ 20) (hk : k = 24 ∨ k = 16 ∨ k = 8 ∨ k = 0)
    (h : ∀ v, exH u v → hS v HC K (S ++ [x.toBitVec.toNat / 2 ^ k % 256]) → J_X7_four_3 E 27 x (nI k + (-8)) v) : J_X7_four_3 E 27 x (nI k) u := by
  refine w_X7_four_3 X hd hQ ⟨fun q => absurd q (nI_pos (by omega)), fun _ => ⟨isO27, ?_⟩⟩
  refine i_X7_one hf hs hl (c := x.toBitVec.toNat / 2 ^ k % 256) (Nat.mod_lt _ (by omega)) (shr8 x k hk) (fun v xv mv => ?_)
  rintro x3 rfl
  exact h v xv mv
theorem w_X7_four {E : gx_E} (X : gx_X E cX7_four 3 RX7 none) (hd : 3 ≤ ex_d E) {post : gx_S → Prop} (hQ : ex_Q E = va_Qv post (gx_B (ex_Z E)) (gx_A (ex_Z E))) {u : gx_S} {v0 : Nat} {v1 : Int32} (h : S_X7_four u v0 v1 post) : gx_Wc E 3 0 [(0, .ref (ex_ad E v0)), (1, .int v1)] [] u := by
  obtain ⟨rfl, t, HC, K, S, hf, hs, hl, hp⟩ := h
  refine w_X7_four_0 X hd hQ ?_
  refine st_X7_four X hd hQ (k := 24) hf hs (by omega) (by omega) (fun v1 x1 m1 => ?_)
  refine st_X7_four X hd hQ (k := 16) (exG_mfix x1 hf) m1 (by simp; omega) (by omega) (fun v2 x2 m2 => ?_)
  refine st_X7_four X hd hQ (k := 8) (exG_mfix x2 (exG_mfix x1 hf)) m2 (by simp; omega) (by omega) (fun v3 x3 m3 => ?_)
  refine st_X7_four X hd hQ (k := 0) (exG_mfix x3 (exG_mfix x2 (exG_mfix x1 hf))) m3 (by simp; omega) (by omega) (fun v4 x4 m4 => ?_)
  refine w_X7_four_3 X hd hQ ⟨fun _ => hp v4 (exG_tr x1 (exG_tr x2 (exG_tr x3 x4))) ?_, fun q => absurd (show nI 0 + (-8) < 0 by decide) q⟩
  simpa [wB] using m4
theorem c_X7_four {l : Launch} {Z : gx_Z} {u : gx_S} {v0 : Nat} {v1 : Int32} {post : gx_S → Prop} (h : S_X7_four u v0 v1 post) : Met l yX7_four (Cond.code yX7_four cX7_four 3 none :: gx_TB) (gx_rm 3) (gx_Pre Z u [.ref (Z.2.1 v0), .int v1]) (va_Qv post (gx_B Z) (gx_A Z)) 0 0 (gx_A Z) := by
  refine gx_met (by decide +kernel) (Nat.le_of_ble_eq_true rfl) ?_
  intro E X hZ hQ hD hL
  subst hZ
  exact w_X7_four X (Nat.le_of_eq hD.symm) hQ h

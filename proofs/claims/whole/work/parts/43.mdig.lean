-- PlainSealModel$Hash.finish([BI)V
theorem dX7_finish_0 : decode cX7_finish 0 = .ok (.ldc2_w 69, 3) := by decide +kernel
theorem dX7_finish_3 : decode cX7_finish 3 = .ok (.aload_n 0, 1) := by decide +kernel
theorem dX7_finish_4 : decode cX7_finish 4 = .ok (.getfield 58, 3) := by decide +kernel
theorem dX7_finish_7 : decode cX7_finish 7 = .ok (.lmul, 1) := by decide +kernel
theorem dX7_finish_8 : decode cX7_finish 8 = .ok (.lstore_n 3, 1) := by decide +kernel
theorem dX7_finish_9 : decode cX7_finish 9 = .ok (.aload_n 0, 1) := by decide +kernel
theorem dX7_finish_10 : decode cX7_finish 10 = .ok (.sipush 128, 3) := by decide +kernel
theorem dX7_finish_13 : decode cX7_finish 13 = .ok (.invokevirtual 65, 3) := by decide +kernel
theorem dX7_finish_16 : decode cX7_finish 16 = .ok (.aload_n 0, 1) := by decide +kernel
theorem dX7_finish_17 : decode cX7_finish 17 = .ok (.getfield 54, 3) := by decide +kernel
theorem dX7_finish_20 : decode cX7_finish 20 = .ok (.bipush 56, 2) := by decide +kernel
theorem dX7_finish_22 : decode cX7_finish 22 = .ok (.if_icmp .eq 11, 3) := by decide +kernel
theorem dX7_finish_25 : decode cX7_finish 25 = .ok (.aload_n 0, 1) := by decide +kernel
theorem dX7_finish_26 : decode cX7_finish 26 = .ok (.iconst 0, 1) := by decide +kernel
theorem dX7_finish_27 : decode cX7_finish 27 = .ok (.invokevirtual 65, 3) := by decide +kernel
theorem dX7_finish_30 : decode cX7_finish 30 = .ok (.goto (-14), 3) := by decide +kernel
theorem dX7_finish_33 : decode cX7_finish 33 = .ok (.aload_n 0, 1) := by decide +kernel
theorem dX7_finish_34 : decode cX7_finish 34 = .ok (.lload_n 3, 1) := by decide +kernel
theorem dX7_finish_35 : decode cX7_finish 35 = .ok (.bipush 32, 2) := by decide +kernel
theorem dX7_finish_37 : decode cX7_finish 37 = .ok (.lushr, 1) := by decide +kernel
theorem dX7_finish_38 : decode cX7_finish 38 = .ok (.l2i, 1) := by decide +kernel
theorem dX7_finish_39 : decode cX7_finish 39 = .ok (.invokevirtual 71, 3) := by decide +kernel
theorem dX7_finish_42 : decode cX7_finish 42 = .ok (.aload_n 0, 1) := by decide +kernel
theorem dX7_finish_43 : decode cX7_finish 43 = .ok (.lload_n 3, 1) := by decide +kernel
theorem dX7_finish_44 : decode cX7_finish 44 = .ok (.l2i, 1) := by decide +kernel
theorem dX7_finish_45 : decode cX7_finish 45 = .ok (.invokevirtual 71, 3) := by decide +kernel
theorem dX7_finish_48 : decode cX7_finish 48 = .ok (.iconst 0, 1) := by decide +kernel
theorem dX7_finish_49 : decode cX7_finish 49 = .ok (.istore 5, 2) := by decide +kernel
theorem dX7_finish_51 : decode cX7_finish 51 = .ok (.iload 5, 2) := by decide +kernel
theorem dX7_finish_53 : decode cX7_finish 53 = .ok (.bipush 32, 2) := by decide +kernel
theorem dX7_finish_55 : decode cX7_finish 55 = .ok (.if_icmp .ge 36, 3) := by decide +kernel
theorem dX7_finish_58 : decode cX7_finish 58 = .ok (.aload_n 1, 1) := by decide +kernel
theorem dX7_finish_59 : decode cX7_finish 59 = .ok (.iload_n 2, 1) := by decide +kernel
theorem dX7_finish_60 : decode cX7_finish 60 = .ok (.iload 5, 2) := by decide +kernel
theorem dX7_finish_62 : decode cX7_finish 62 = .ok (.iadd, 1) := by decide +kernel
theorem dX7_finish_63 : decode cX7_finish 63 = .ok (.aload_n 0, 1) := by decide +kernel
theorem dX7_finish_64 : decode cX7_finish 64 = .ok (.getfield 13, 3) := by decide +kernel
theorem dX7_finish_67 : decode cX7_finish 67 = .ok (.iload 5, 2) := by decide +kernel
theorem dX7_finish_69 : decode cX7_finish 69 = .ok (.iconst 4, 1) := by decide +kernel
theorem dX7_finish_70 : decode cX7_finish 70 = .ok (.idiv, 1) := by decide +kernel
theorem dX7_finish_71 : decode cX7_finish 71 = .ok (.iaload, 1) := by decide +kernel
theorem dX7_finish_72 : decode cX7_finish 72 = .ok (.bipush 24, 2) := by decide +kernel
theorem dX7_finish_74 : decode cX7_finish 74 = .ok (.bipush 8, 2) := by decide +kernel
theorem dX7_finish_76 : decode cX7_finish 76 = .ok (.iload 5, 2) := by decide +kernel
theorem dX7_finish_78 : decode cX7_finish 78 = .ok (.iconst 4, 1) := by decide +kernel
theorem dX7_finish_79 : decode cX7_finish 79 = .ok (.irem, 1) := by decide +kernel
theorem dX7_finish_80 : decode cX7_finish 80 = .ok (.imul, 1) := by decide +kernel
theorem dX7_finish_81 : decode cX7_finish 81 = .ok (.isub, 1) := by decide +kernel
theorem dX7_finish_82 : decode cX7_finish 82 = .ok (.ishr, 1) := by decide +kernel
theorem dX7_finish_83 : decode cX7_finish 83 = .ok (.i2b, 1) := by decide +kernel
theorem dX7_finish_84 : decode cX7_finish 84 = .ok (.bastore, 1) := by decide +kernel
theorem dX7_finish_85 : decode cX7_finish 85 = .ok (.iinc 5 1, 3) := by decide +kernel
theorem dX7_finish_88 : decode cX7_finish 88 = .ok (.goto (-37), 3) := by decide +kernel
theorem dX7_finish_91 : decode cX7_finish 91 = .ok (.return_, 1) := by decide +kernel
theorem hyX7_finish : yX7_finish.cls ≠ "java/lang/invoke/MethodHandle" ∧ yX7_finish.cls ≠ "java/lang/invoke/VarHandle" ∧ (parseMethodDescriptor yX7_finish.desc).map (fun d => d.parameters.length) = some 2 := by decide +kernel
abbrev J_X7_finish_16 (E : gx_E) (v0 : Nat) (v1 : Nat) (v2 : Int32) (v3 : Int64) (u : gx_S) : Prop := gx_Wc E 6 16 [(0, .ref (ex_ad E v0)), (1, .ref (ex_ad E v1)), (2, .int v2), (3, .long v3)] [] u
abbrev J_X7_finish_51 (E : gx_E) (v0 : Nat) (v1 : Nat) (v2 : Int32) (v3 : Int64) (v5 : Int32) (u : gx_S) : Prop := gx_Wc E 6 51 [(0, .ref (ex_ad E v0)), (1, .ref (ex_ad E v1)), (2, .int v2), (3, .long v3), (5, .int v5)] [] u
set_option maxHeartbeats 4000000 in
set_option maxRecDepth 100000 in
theorem w_X7_finish_0 {E : gx_E} (X : gx_X E cX7_finish 6 RX7 none) (hd : 4 ≤ ex_d E) {post : gx_S → Prop} (hQ : ex_Q E = va_Qv post (gx_B (ex_Z E)) (gx_A (ex_Z E))) {u : gx_S} {v0 : Nat} {v1 : Nat} {v2 : Int32} (h : (gx_isO v0 6 ∧ (∀ x2 : Int64, x2 = ((8 : Int64) * (gx_l u v0 6)) → (S_X7_one u v0 (128 : Int32) (fun (u3 : gx_S) => J_X7_finish_16 E v0 v1 v2 x2 u3))))) : gx_Wc E 6 0 [(0, .ref (ex_ad E v0)), (1, .ref (ex_ad E v1)), (2, .int v2)] [] u := by
  refine gx_ldc2 X (v := 8) mw_746 dX7_finish_0 ?_
  refine gx_aload_n X (j := 0) dX7_finish_3 rfl rfl ?_
  obtain ⟨k1, h⟩ := h
  refine gx_get X k1 rfl iwX7 6 (by decide) mw_505 (v := .long (gx_l u v0 6)) rfl dX7_finish_4 ?_
  refine gx_lmul X dX7_finish_7 ?_
  refine gx_naml (fun x2 ex2 => ?_)
  replace h := h x2 ex2
  refine gx_lstore_n X (lv' := [(3, .long x2), (0, .ref (ex_ad E v0)), (1, .ref (ex_ad E v1)), (2, .int v2)]) dX7_finish_8 rfl (by decide) rfl ?_
  refine gx_aload_n X (j := 1) dX7_finish_9 rfl rfl ?_
  refine gx_sipush X (v := 128) dX7_finish_10 (by decide) ?_
  refine gx_kv (gx_rV X (c_X7_one h) (Nat.le_trans (by decide) hd) (Nat.le_trans (by decide) (Nat.mul_le_mul_left 40 hd)) k1 rfl mw_731 mw_732 mw_733 mw_10 mw_734 hyX7_one (As := [.int (128 : Int32)]) (rest := []) rfl rfl (Nat.le_of_ble_eq_true rfl) dX7_finish_13) (fun u3 h => ?_)
  exact gx_sub [1, 2, 3, 0] rfl h
set_option maxHeartbeats 4000000 in
set_option maxRecDepth 100000 in
theorem w_X7_finish_16 {E : gx_E} (X : gx_X E cX7_finish 6 RX7 none) (hd : 4 ≤ ex_d E) {post : gx_S → Prop} (hQ : ex_Q E = va_Qv post (gx_B (ex_Z E)) (gx_A (ex_Z E))) {u : gx_S} {v0 : Nat} {v1 : Nat} {v2 : Int32} {v3 : Int64} (h : (gx_isO v0 6 ∧ (((gx_i u v0 5) = (56 : Int32) → (S_X7_four u v0 (((v3.toUInt64 >>> ((32 : Int32).toInt64.toUInt64 &&& Int64.toUInt64 63)).toInt64)).toInt32 (fun (u2 : gx_S) => (S_X7_four u2 v0 (v3).toInt32 (fun (u3 : gx_S) => J_X7_finish_51 E v0 v1 v2 v3 (0 : Int32) u3))))) ∧ (¬ (gx_i u v0 5) = (56 : Int32) → (S_X7_one u v0 (0 : Int32) (fun (u4 : gx_S) => J_X7_finish_16 E v0 v1 v2 v3 u4)))))) : gx_Wc E 6 16 [(0, .ref (ex_ad E v0)), (1, .ref (ex_ad E v1)), (2, .int v2), (3, .long v3)] [] u := by
  refine gx_aload_n X (j := 0) dX7_finish_16 rfl rfl ?_
  obtain ⟨k1, h⟩ := h
  refine gx_get X k1 rfl iwX7 5 (by decide) mw_504 (v := .int (gx_i u v0 5)) rfl dX7_finish_17 ?_
  refine gx_bipush X (v := 56) dX7_finish_20 (by decide) ?_
  refine gx_icmp_eq X (tgt := 33) dX7_finish_22 (by decide) (fun c5 => ?_) (fun c5 => ?_)
  · replace h := h.1 c5
    refine gx_aload_n X (j := 0) dX7_finish_33 rfl rfl ?_
    refine gx_lload_n X (j := 3) dX7_finish_34 rfl rfl ?_
    refine gx_bipush X (v := 32) dX7_finish_35 (by decide) ?_
    refine gx_lushr X (v := (v3.toUInt64 >>> ((32 : Int32).toInt64.toUInt64 &&& Int64.toUInt64 63)).toInt64) dX7_finish_37 rfl ?_
    refine gx_l2i X (v := (((v3.toUInt64 >>> ((32 : Int32).toInt64.toUInt64 &&& Int64.toUInt64 63)).toInt64)).toInt32) dX7_finish_38 rfl ?_
    refine gx_kv (gx_rV X (c_X7_four h) (Nat.le_trans (by decide) hd) (Nat.le_trans (by decide) (Nat.mul_le_mul_left 40 hd)) k1 rfl mw_747 mw_748 mw_749 mw_10 mw_750 hyX7_four (As := [.int (((v3.toUInt64 >>> ((32 : Int32).toInt64.toUInt64 &&& Int64.toUInt64 63)).toInt64)).toInt32]) (rest := []) rfl rfl (Nat.le_of_ble_eq_true rfl) dX7_finish_39) (fun u2 h => ?_)
    refine gx_aload_n X (j := 0) dX7_finish_42 rfl rfl ?_
    refine gx_lload_n X (j := 3) dX7_finish_43 rfl rfl ?_
    refine gx_l2i X (v := (v3).toInt32) dX7_finish_44 rfl ?_
    refine gx_kv (gx_rV X (c_X7_four h) (Nat.le_trans (by decide) hd) (Nat.le_trans (by decide) (Nat.mul_le_mul_left 40 hd)) k1 rfl mw_747 mw_748 mw_749 mw_10 mw_750 hyX7_four (As := [.int (v3).toInt32]) (rest := []) rfl rfl (Nat.le_of_ble_eq_true rfl) dX7_finish_45) (fun u3 h => ?_)
    refine gx_iconst X (v := 0) dX7_finish_48 (by decide) ?_
    refine gx_istore X (lv' := [(5, .int (0 : Int32)), (0, .ref (ex_ad E v0)), (1, .ref (ex_ad E v1)), (2, .int v2), (3, .long v3)]) dX7_finish_49 (by decide) rfl ?_
    exact gx_sub [1, 2, 3, 4, 0] rfl h
  · replace h := h.2 c5
    refine gx_aload_n X (j := 0) dX7_finish_25 rfl rfl ?_
    refine gx_iconst X (v := 0) dX7_finish_26 (by decide) ?_
    refine gx_kv (gx_rV X (c_X7_one h) (Nat.le_trans (by decide) hd) (Nat.le_trans (by decide) (Nat.mul_le_mul_left 40 hd)) k1 rfl mw_731 mw_732 mw_733 mw_10 mw_734 hyX7_one (As := [.int (0 : Int32)]) (rest := []) rfl rfl (Nat.le_of_ble_eq_true rfl) dX7_finish_27) (fun u4 h => ?_)
    refine gx_goto X (tgt := 16) dX7_finish_30 (by decide) ?_
    exact gx_sub [0, 1, 2, 3] rfl h
set_option maxHeartbeats 4000000 in
set_option maxRecDepth 100000 in
theorem w_X7_finish_51 {E : gx_E} (X : gx_X E cX7_finish 6 RX7 none) (hd : 4 ≤ ex_d E) {post : gx_S → Prop} (hQ : ex_Q E = va_Qv post (gx_B (ex_Z E)) (gx_A (ex_Z E))) {u : gx_S} {v0 : Nat} {v1 : Nat} {v2 : Int32} {v3 : Int64} {v5 : Int32} (h : (((32 : Int32) ≤ v5 → post u) ∧ (¬ (32 : Int32) ≤ v5 → (gx_isO v0 6 ∧ (gx_isR (gx_r u v0 1) .int ∧ vp_in (v5 / (4 : Int32)) (gx_len (gx_r u v0 1)) ∧ (gx_isA v1 .byte ∧ vp_in (v2 + v5) (gx_len v1) ∧ ∀ u6 : gx_S, u6 = gx_pa u v1 (upd (gx_a u v1) (v2 + v5).toNatClampNeg ((((gx_a u (gx_r u v0 1) (v5 / (4 : Int32)).toNatClampNeg) >>> (((24 : Int32) - ((8 : Int32) * (v5 - v5 / (4 : Int32) * (4 : Int32)))) &&& 31))).toInt8.toInt32).toInt8.toInt32) → (∀ x7 : Int32, x7 = v5 + 1 → J_X7_finish_51 E v0 v1 v2 v3 x7 u6))))))) : gx_Wc E 6 51 [(0, .ref (ex_ad E v0)), (1, .ref (ex_ad E v1)), (2, .int v2), (3, .long v3), (5, .int v5)] [] u := by
  refine gx_iload X (j := 4) dX7_finish_51 rfl ?_
  refine gx_bipush X (v := 32) dX7_finish_53 (by decide) ?_
  refine gx_icmp_ge X (tgt := 91) dX7_finish_55 (by decide) (fun c8 => ?_) (fun c8 => ?_)
  · replace h := h.1 c8
    exact gx_vret X hQ h dX7_finish_91
  · replace h := h.2 c8
    refine gx_aload_n X (j := 1) dX7_finish_58 rfl rfl ?_
    refine gx_iload_n X (j := 2) dX7_finish_59 rfl rfl ?_
    refine gx_iload X (j := 4) dX7_finish_60 rfl ?_
    refine gx_iadd X dX7_finish_62 ?_
    refine gx_aload_n X (j := 0) dX7_finish_63 rfl rfl ?_
    obtain ⟨k1, h⟩ := h
    refine gx_get X k1 rfl iwX7 1 (by decide) mw_500 (v := .ref (ex_ad E (gx_r u v0 1))) rfl dX7_finish_64 ?_
    refine gx_iload X (j := 4) dX7_finish_67 rfl ?_
    refine gx_iconst X (v := 4) dX7_finish_69 (by decide) ?_
    refine gx_idiv X dX7_finish_70 (by decide) ?_
    obtain ⟨k2, h⟩ := h
    obtain ⟨k3, h⟩ := h
    refine gx_iald X k2 k3 dX7_finish_71 ?_
    refine gx_bipush X (v := 24) dX7_finish_72 (by decide) ?_
    refine gx_bipush X (v := 8) dX7_finish_74 (by decide) ?_
    refine gx_iload X (j := 4) dX7_finish_76 rfl ?_
    refine gx_iconst X (v := 4) dX7_finish_78 (by decide) ?_
    refine gx_irem X dX7_finish_79 (by decide) ?_
    refine gx_imul X dX7_finish_80 ?_
    refine gx_isub X dX7_finish_81 ?_
    refine gx_ishr X dX7_finish_82 ?_
    refine gx_i2b X (v := (((gx_a u (gx_r u v0 1) (v5 / (4 : Int32)).toNatClampNeg) >>> (((24 : Int32) - ((8 : Int32) * (v5 - v5 / (4 : Int32) * (4 : Int32)))) &&& 31))).toInt8.toInt32) dX7_finish_83 rfl ?_
    obtain ⟨k4, h⟩ := h
    obtain ⟨k5, h⟩ := h
    refine gx_bast X k4 k5 dX7_finish_84 ?_
    refine gx_nams (fun u6 eu6 => ?_)
    replace h := h u6 eu6
    obtain ⟨x7, ex7⟩ : ∃ y : Int32, y = v5 + 1 := ⟨_, rfl⟩
    replace h := h x7 ex7
    refine gx_iinc X (v := x7) (lv' := [(5, .int x7), (0, .ref (ex_ad E v0)), (1, .ref (ex_ad E v1)), (2, .int v2), (3, .long v3)]) dX7_finish_85 (j := 4) rfl (by rw [ex7]; rfl) (by decide) rfl ?_
    refine gx_goto X (tgt := 51) dX7_finish_88 (by decide) ?_
    exact gx_sub [1, 2, 3, 4, 0] rfl h
-- the whole stream of a row: its bytes, 128, noughts, how many bits
def zer (T : List Nat) : Nat := 64 * nblk T - 9 - T.length
def fst9 (T : List Nat) (k : Nat) : List Nat := T ++ [128] ++ List.replicate k 0
def full (T : List Nat) : List Nat := fst9 T (zer T) ++ wB 0 ++ wB (nI (8 * T.length))
theorem nblk_ok (T : List Nat) : T.length + 9 ≤ 64 * nblk T ∧ 64 * nblk T ≤ T.length + 72 := by unfold nblk; omega
theorem fst9_len (T : List Nat) (k : Nat) : (fst9 T k).length = T.length + 1 + k := by simp [fst9]; omega
theorem full_len (T : List Nat) : (full T).length = 64 * nblk T := by
  have := nblk_ok T
  unfold full
  rw [List.length_append, List.length_append, fst9_len]
  unfold zer
  simp [wB]
  omega
theorem fst9_ch {T : List Nat} {z k : Nat} (h : k < T.length + 1 + z) : ch (fst9 T z) k = pb T k := by
  unfold fst9 pb
  by_cases h1 : k < T.length
  · rw [if_pos h1, List.append_assoc, ch_app_lo h1]
  · rw [if_neg h1]
    by_cases h2 : k = T.length
    · subst h2
      rw [if_pos rfl, List.append_assoc, ch_app_hi (Nat.le_refl _), Nat.sub_self]
      rfl
    · rw [if_neg h2, ch_app_hi (by rw [len_push]; omega), len_push]
      unfold ch
      rw [List.getD_eq_getElem?_getD, List.getElem?_replicate, if_pos (by omega)]
      rfl
theorem wB0 : wB 0 = [0, 0, 0, 0] := by decide
theorem full_lo {T : List Nat} {k : Nat} (h : k < 64 * nblk T - 4) : ch (full T) k = pb T k := by
  have hn := nblk_ok T
  unfold full
  rw [wB0]
  have hl : (fst9 T (zer T)).length = 64 * nblk T - 8 := by rw [fst9_len]; unfold zer; omega
  by_cases h1 : k < 64 * nblk T - 8
  · rw [List.append_assoc, ch_app_lo (by omega)]
    exact fst9_ch (by unfold zer; omega)
  · rw [ch_app_lo (by simp; omega), ch_app_hi (by omega), hl]
    have hp : pb T k = 0 := by unfold pb; rw [if_neg (by omega), if_neg (by omega)]
    rw [hp]
    have : k - (64 * nblk T - 8) = 0 ∨ k - (64 * nblk T - 8) = 1 ∨ k - (64 * nblk T - 8) = 2 ∨ k - (64 * nblk T - 8) = 3 := by omega
    rcases this with e | e | e | e <;> rw [e] <;> rfl
theorem full_hi {T : List Nat} {i : Nat} (h : i < 4) : ch (full T) (64 * nblk T - 4 + i) = ch (wB (nI (8 * T.length))) i := by
  have hn := nblk_ok T
  unfold full
  have hl : (fst9 T (zer T) ++ wB 0).length = 64 * nblk T - 4 := by
    rw [List.length_append, fst9_len, wB0]
    unfold zer
    simp
    omega
  rw [ch_app_hi (by omega), hl, show 64 * nblk T - 4 + i - (64 * nblk T - 4) = i by omega]
theorem wB_wd (x : Int32) : wd4 (fun j => ch (wB x) j) 0 = x := by
  unfold wd4
  have e0 : ch (wB x) 0 = x.toBitVec.toNat / 2 ^ 24 % 256 := rfl
  have e1 : ch (wB x) 1 = x.toBitVec.toNat / 2 ^ 16 % 256 := rfl
  have e2 : ch (wB x) 2 = x.toBitVec.toNat / 2 ^ 8 % 256 := rfl
  have e3 : ch (wB x) 3 = x.toBitVec.toNat % 256 := rfl
  dsimp only
  rw [Nat.zero_add, Nat.zero_add, Nat.zero_add, e0, e1, e2, e3]
  have hx := i32_lt x
  refine Eq.trans ?_ (nI_dv x)
  unfold dv
  exact congrArg nI (by omega)
/-- the stream's blocks are the padded row's -/
theorem sx_sh {HC K : Nat → Int32} {T : List Nat} : ∀ b, b ≤ nblk T → ∀ j, j < 8 → sx HC K (full T) b j = shS HC K T (nblk T) b j
  | 0, _, _, _ => rfl
  | b + 1, h, j, hj => by
    unfold sx shS
    refine blk_cg (sx_sh b (by omega)) (fun _ _ => rfl) (fun i hi => ?_) j hj
    refine schF_cg (fun i hi => ?_) 48 i (by omega)
    unfold w16
    by_cases w : (decide (b + 1 = nblk T) && decide (i = 15)) = true
    · rw [if_pos w]
      have w2 : b + 1 = nblk T ∧ i = 15 := by simpa using w
      obtain ⟨w3, w4⟩ := w2
      subst w4
      have q : ∀ i, i < 4 → ch (full T) (64 * b + (4 * 15 + i)) = ch (wB (nI (8 * T.length))) i := fun i hi => by
        rw [← full_hi hi]
        congr 1
        omega
      have := wB_wd (nI (8 * T.length))
      unfold wd4 at this
      dsimp only at this
      rw [← q (0 + 0) (by omega), ← q (0 + 1) (by omega), ← q (0 + 2) (by omega), ← q (0 + 3) (by omega), Nat.mul_comm 8 T.length] at this
      exact this
    · rw [if_neg w]
      have w2 : ¬ (b + 1 = nblk T ∧ i = 15) := by simpa using w
      unfold wd16 wd4 pwd
      dsimp only
      rw [full_lo (by omega), full_lo (by omega), full_lo (by omega), full_lo (by omega), Nat.mul_comm b 64, ← Nat.add_assoc, ← Nat.add_assoc, ← Nat.add_assoc]
-- finish
theorem ch_dgB {h : Nat → Int32} : ∀ n a b, a < n → b < 4 → ch (dgB h n) (4 * a + b) = ch (wB (h a)) b
  | 0, a, b, ha, _ => by omega
  | n + 1, a, b, ha, hb => by
    unfold dgB
    by_cases e : a = n
    · subst e
      rw [ch_app_hi (by rw [dgB_len]; omega), dgB_len, show 4 * a + b - 4 * a = b by omega]
    · rw [ch_app_lo (by rw [dgB_len]; omega)]
      exact ch_dgB n a b (by omega) hb
theorem wB_ch {x : Int32} {b : Nat} (hb : b < 4) : ch (wB x) b = x.toBitVec.toNat / 2 ^ (24 - 8 * b) % 256 := by
  have : b = 0 ∨ b = 1 ∨ b = 2 ∨ b = 3 := by omega
  rcases this with rfl | rfl | rfl | rfl
  · rfl
  · rfl
  · rfl
  · show x.toBitVec.toNat % 256 = x.toBitVec.toNat / 2 ^ 0 % 256
    simp
theorem okL_dgB (h : Nat → Int32) : ∀ n, okL (dgB h n)
  | 0 => fun c hc => absurd hc List.not_mem_nil
  | n + 1 => fun c hc => by
    unfold dgB at hc
    rcases List.mem_append.mp hc with hc | hc
    · exact okL_dgB h n c hc
    · simp [wB] at hc
      omega
theorem isA57 : gx_isA 57 .byte := ⟨by decide, rfl⟩
def S_X7_finish (u : gx_S) (v0 v1 : Nat) (v2 : Int32) (post : gx_S → Prop) : Prop := v0 = 27 ∧ v1 = 57 ∧ v2 = 0 ∧ ∃ (t : Nat) (HC K : Nat → Int32) (T : List Nat), mfix t u ∧ hS u HC K T ∧ T.length ≤ 2000 ∧ ∀ v, exG [48, 49, 51, 57] [(27, 5)] u v → rdb (dig HC K T) (gx_a v 57) → post v
theorem lpf51 {E : gx_E} (X : gx_X E cX7_finish 6 RX7 none) (hd : 4 ≤ ex_d E) {post : gx_S → Prop} (hQ : ex_Q E = va_Qv post (gx_B (ex_Z E)) (gx_A (ex_Z E))) {u0 : gx_S} {t : Nat} {v3 : Int64} {h : Nat → Int32} (hf0 : mfix t u0) (hh : ∀ j, j < 8 → gx_a u0 48 j = h j) (hp : ∀ v, exG [57] [] u0 v → rdb (dgB h 8) (gx_a v 57) → post v) :
    ∀ (n i : Nat) (u : gx_S), 32 - i = n → i ≤ 32 → exG [57] [] u0 u → (∀ j, j < i → gx_a u 57 j = sb_b (ch (dgB h 8) j)) → J_X7_finish_51 E 27 57 0 v3 (nI i) u := by
  intro n
  induction n with
  | zero =>
    intro i u hn hi hx hw
    refine w_X7_finish_51 X hd hQ ⟨fun _ => hp u hx ⟨okL_dgB h 8, fun j hj => hw j (by rw [dgB_len] at hj; omega)⟩, fun q => absurd (nI_le (a := 32) (by omega) (by omega)) q⟩
  | succ n ih =>
    intro i u hn hi hx hw
    have hf := exG_mfix hx hf0
    refine w_X7_finish_51 X hd hQ ⟨fun q => absurd q (nI_ge (b := 32) (by omega) (by omega)), fun _ => ⟨isO27, ?_⟩⟩
    have hm : i % 4 < 4 := Nat.mod_lt _ (by omega)
    rw [show gx_r u 27 1 = 48 from hf 27 1 (by decide) (by decide), show (4 : Int32) = nI 4 from rfl, pk_div (by omega) (by omega) (by omega), nI_clamp (show i / 4 < 2 ^ 31 by omega), pk_mul, pk_sub (by omega), show i - i / 4 * 4 = i % 4 by omega, show (8 : Int32) = nI 8 from rfl, pk_mul, show (24 : Int32) = nI 24 from rfl, pk_sub (by omega), hx.2.2 48 (by decide), hh (i / 4) (by omega), shr8 (h (i / 4)) (24 - 8 * (i % 4)) (by omega), show (0 : Int32) = nI 0 from rfl, nI_add, Nat.zero_add, nI_clamp (show i < 2 ^ 31 by omega), byte_sb (Nat.mod_lt _ (by omega))]
    refine ⟨isA48.r, in48 (by omega), isA57, vp_in_nI (N := 32) (by omega) (by omega), fun u6 e6 x7 e7 => ?_⟩
    rw [e7, nI_1]
    refine ih (i + 1) u6 (by omega) (by omega) (exG_tr hx (by rw [e6]; exact exG_pa _ _ (by simp))) (fun j hj => ?_)
    rw [e6, gx_a_pa, if_pos rfl]
    by_cases w : j = i
    · rw [w, pk_us, ← wB_ch hm, ← ch_dgB 8 (i / 4) (i % 4) (by omega) hm, show 4 * (i / 4) + i % 4 = i by omega]
    · rw [pk_un w]; exact hw j (by omega)
theorem w_X7_finish {E : gx_E} (X : gx_X E cX7_finish 6 RX7 none) (hd : 4 ≤ ex_d E) {post : gx_S → Prop} (hQ : ex_Q E = va_Qv post (gx_B (ex_Z E)) (gx_A (ex_Z E))) {u : gx_S} {v0 v1 : Nat} {v2 : Int32} (h : S_X7_finish u v0 v1 v2 post) : gx_Wc E 6 0 [(0, .ref (ex_ad E v0)), (1, .ref (ex_ad E v1)), (2, .int v2)] [] u := by
  obtain ⟨rfl, rfl, rfl, t, HC, K, T, hf0, hs0, hl, hp⟩ := h
  have hn := nblk_ok T
  refine w_X7_finish_0 X hd hQ ⟨isO27, fun x2 e2 => ?_⟩
  have e2 : x2 = lN (8 * T.length) := by
    rw [e2, hs0.2.2.2.1, show (8 : Int64) = lz 8 from rfl, lz_mul, lz_n]
    rfl
  subst e2
  refine i_X7_one hf0 hs0 (by omega) (c := 128) (by omega) (by decide) (fun v xv mv => ?_)
  have lp : ∀ (n k : Nat) (w : gx_S), zer T - k = n → k ≤ zer T → exH u w → hS w HC K (fst9 T k) → J_X7_finish_16 E 27 57 0 (lN (8 * T.length)) w := by
    intro n
    induction n with
    | zero =>
      intro k w hn' hk hx hs
      have ek : k = zer T := by omega
      subst ek
      have hf := exG_mfix hx hf0
      have hlen := fst9_len T (zer T)
      refine w_X7_finish_16 X hd hQ ⟨isO27, fun _ => ?_, fun q => absurd ?_ q⟩
      · refine ⟨rfl, t, HC, K, _, hf, hs, by rw [hlen]; unfold zer; omega, fun w1 x1 m1 => ?_⟩
        refine ⟨rfl, t, HC, K, _, exG_mfix x1 hf, m1, by rw [List.length_append, hlen]; unfold zer; simp [wB]; omega, fun w2 x2 m2 => ?_⟩
        have hz : ((((lN (8 * T.length)).toUInt64 >>> ((32 : Int32).toInt64.toUInt64 &&& Int64.toUInt64 63)).toInt64)).toInt32 = 0 := by
          rw [show (32 : Int32) = nI 32 from rfl, wb_shr (by omega) (by omega), show 8 * T.length / 2 ^ 32 = 0 by omega]
          rfl
        have hlo : (lN (8 * T.length)).toInt32 = nI (8 * T.length) := lN_i _
        rw [hz, hlo] at m2
        have m2 : hS w2 HC K (full T) := m2
        have x02 : exH u w2 := exG_tr hx (exG_tr x1 x2)
        refine lpf51 X hd hQ (h := sx HC K (full T) (nblk T)) (exG_mfix x02 hf0) (fun j hj => ?_) (fun v' xv' mv' => ?_) 32 0 w2 rfl (by omega) (exG_rf _ _ _) (fun j hj => absurd hj (by omega))
        · rw [m2.2.2.2.2.1 j hj, full_len, Nat.mul_div_cancel_left _ (by omega)]
        · refine hp v' (exG_tr (exG_wk x02 (by simp) (by simp)) (exG_wk xv' (by simp) (by simp))) ?_
          rw [dgB_cg 8 (fun j hj => sx_sh (nblk T) (Nat.le_refl _) j hj)] at mv'
          exact mv'
      · rw [hs.2.2.1, hlen]
        have : (T.length + 1 + zer T) % 64 = 56 := by unfold zer; omega
        rw [this]
        rfl
    | succ n ih =>
      intro k w hn' hk hx hs
      have hf := exG_mfix hx hf0
      have hlen := fst9_len T k
      refine w_X7_finish_16 X hd hQ ⟨isO27, fun q => absurd q ?_, fun _ => ?_⟩
      · rw [hs.2.2.1, hlen]
        intro q
        have := (nI_eq (b := 56) (by omega) (by omega)).mp q
        unfold zer at hn' hk
        omega
      · refine i_X7_one hf hs (by rw [hlen]; unfold zer at hk; omega) (c := 0) (by omega) (by decide) (fun w1 x1 m1 => ?_)
        refine ih (k + 1) w1 (by omega) (by omega) (exG_tr hx x1) ?_
        have e : fst9 T (k + 1) = fst9 T k ++ [0] := by unfold fst9; rw [List.replicate_succ', List.append_assoc, List.append_assoc, List.append_assoc]
        rw [e]
        exact m1
  exact lp (zer T) 0 v (by omega) (by omega) xv (by simpa [fst9] using mv)
theorem c_X7_finish {l : Launch} {Z : gx_Z} {u : gx_S} {v0 : Nat} {v1 : Nat} {v2 : Int32} {post : gx_S → Prop} (h : S_X7_finish u v0 v1 v2 post) : Met l yX7_finish (Cond.code yX7_finish cX7_finish 6 none :: gx_TB) (gx_rm 4) (gx_Pre Z u [.ref (Z.2.1 v0), .ref (Z.2.1 v1), .int v2]) (va_Qv post (gx_B Z) (gx_A Z)) 0 0 (gx_A Z) := by
  refine gx_met (by decide +kernel) (Nat.le_of_ble_eq_true rfl) ?_
  intro E X hZ hQ hD hL
  subst hZ
  exact w_X7_finish X (Nat.le_of_eq hD.symm) hQ h
-- PlainSealModel.digest([BI[B)V
theorem dX10_digest_0 : decode cX10_digest 0 = .ok (.aload_n 0, 1) := by decide +kernel
theorem dX10_digest_1 : decode cX10_digest 1 = .ok (.getfield 67, 3) := by decide +kernel
theorem dX10_digest_4 : decode cX10_digest 4 = .ok (.invokevirtual 205, 3) := by decide +kernel
theorem dX10_digest_7 : decode cX10_digest 7 = .ok (.aload_n 0, 1) := by decide +kernel
theorem dX10_digest_8 : decode cX10_digest 8 = .ok (.getfield 67, 3) := by decide +kernel
theorem dX10_digest_11 : decode cX10_digest 11 = .ok (.aload_n 1, 1) := by decide +kernel
theorem dX10_digest_12 : decode cX10_digest 12 = .ok (.iconst 0, 1) := by decide +kernel
theorem dX10_digest_13 : decode cX10_digest 13 = .ok (.iload_n 2, 1) := by decide +kernel
theorem dX10_digest_14 : decode cX10_digest 14 = .ok (.invokevirtual 207, 3) := by decide +kernel
theorem dX10_digest_17 : decode cX10_digest 17 = .ok (.aload_n 0, 1) := by decide +kernel
theorem dX10_digest_18 : decode cX10_digest 18 = .ok (.getfield 67, 3) := by decide +kernel
theorem dX10_digest_21 : decode cX10_digest 21 = .ok (.aload_n 3, 1) := by decide +kernel
theorem dX10_digest_22 : decode cX10_digest 22 = .ok (.iconst 0, 1) := by decide +kernel
theorem dX10_digest_23 : decode cX10_digest 23 = .ok (.invokevirtual 210, 3) := by decide +kernel
theorem dX10_digest_26 : decode cX10_digest 26 = .ok (.return_, 1) := by decide +kernel
theorem hyX10_digest : yX10_digest.cls ≠ "java/lang/invoke/MethodHandle" ∧ yX10_digest.cls ≠ "java/lang/invoke/VarHandle" ∧ (parseMethodDescriptor yX10_digest.desc).map (fun d => d.parameters.length) = some 3 := by decide +kernel
def S_X10_digest (u : gx_S) (v0 : Nat) (v1 : Nat) (v2 : Int32) (v3 : Nat) (post : gx_S → Prop) : Prop := (gx_isO v0 9 ∧ (gx_isO (gx_r u v0 19) 6 ∧ S_X7_begin u (gx_r u v0 19) (fun (u3 : gx_S) => (gx_isO (gx_r u3 v0 19) 6 ∧ S_X7_add u3 (gx_r u3 v0 19) v1 (0 : Int32) v2 (fun (u5 : gx_S) => (gx_isO (gx_r u5 v0 19) 6 ∧ S_X7_finish u5 (gx_r u5 v0 19) v3 (0 : Int32) (fun (u7 : gx_S) => post u7)))))))
set_option maxHeartbeats 4000000 in
set_option maxRecDepth 100000 in
theorem w_X10_digest {E : gx_E} (X : gx_X E cX10_digest 4 RX10 none) (hd : 5 ≤ ex_d E) {post : gx_S → Prop} (hQ : ex_Q E = va_Qv post (gx_B (ex_Z E)) (gx_A (ex_Z E))) {u : gx_S} {v0 : Nat} {v1 : Nat} {v2 : Int32} {v3 : Nat} (h : S_X10_digest u v0 v1 v2 v3 post) : gx_Wc E 4 0 [(0, .ref (ex_ad E v0)), (1, .ref (ex_ad E v1)), (2, .int v2), (3, .ref (ex_ad E v3))] [] u := by
  unfold S_X10_digest at h
  refine gx_aload_n X (j := 0) dX10_digest_0 rfl rfl ?_
  obtain ⟨k1, h⟩ := h
  refine gx_get X k1 rfl iwX10 19 (by decide) mw_540 (v := .ref (ex_ad E (gx_r u v0 19))) rfl dX10_digest_1 ?_
  obtain ⟨k2, h⟩ := h
  refine gx_kv (gx_rV X (c_X7_begin h) (Nat.le_trans (by decide) hd) (Nat.le_trans (by decide) (Nat.mul_le_mul_left 40 hd)) k2 rfl mw_722 mw_723 mw_724 mw_10 mw_725 hyX7_begin (As := []) (rest := []) rfl rfl (Nat.le_of_ble_eq_true rfl) dX10_digest_4) (fun u3 h => ?_)
  refine gx_aload_n X (j := 0) dX10_digest_7 rfl rfl ?_
  refine gx_get X k1 rfl iwX10 19 (by decide) mw_540 (v := .ref (ex_ad E (gx_r u3 v0 19))) rfl dX10_digest_8 ?_
  refine gx_aload_n X (j := 1) dX10_digest_11 rfl rfl ?_
  refine gx_iconst X (v := 0) dX10_digest_12 (by decide) ?_
  refine gx_iload_n X (j := 2) dX10_digest_13 rfl rfl ?_
  obtain ⟨k4, h⟩ := h
  refine gx_kv (gx_rV X (c_X7_add h) (Nat.le_trans (by decide) hd) (Nat.le_trans (by decide) (Nat.mul_le_mul_left 40 hd)) k4 rfl mw_727 mw_728 mw_729 mw_10 mw_730 hyX7_add (As := [.ref (ex_ad E v1), .int (0 : Int32), .int v2]) (rest := []) rfl rfl (Nat.le_of_ble_eq_true rfl) dX10_digest_14) (fun u5 h => ?_)
  refine gx_aload_n X (j := 0) dX10_digest_17 rfl rfl ?_
  refine gx_get X k1 rfl iwX10 19 (by decide) mw_540 (v := .ref (ex_ad E (gx_r u5 v0 19))) rfl dX10_digest_18 ?_
  refine gx_aload_n X (j := 3) dX10_digest_21 rfl rfl ?_
  refine gx_iconst X (v := 0) dX10_digest_22 (by decide) ?_
  obtain ⟨k6, h⟩ := h
  refine gx_kv (gx_rV X (c_X7_finish h) (Nat.le_trans (by decide) hd) (Nat.le_trans (by decide) (Nat.mul_le_mul_left 40 hd)) k6 rfl mw_742 mw_743 mw_744 mw_10 mw_745 hyX7_finish (As := [.ref (ex_ad E v3), .int (0 : Int32)]) (rest := []) rfl rfl (Nat.le_of_ble_eq_true rfl) dX10_digest_23) (fun u7 h => ?_)
  exact gx_vret X hQ h dX10_digest_26
theorem c_X10_digest {l : Launch} {Z : gx_Z} {u : gx_S} {v0 : Nat} {v1 : Nat} {v2 : Int32} {v3 : Nat} {post : gx_S → Prop} (h : S_X10_digest u v0 v1 v2 v3 post) : Met l yX10_digest (Cond.code yX10_digest cX10_digest 4 none :: gx_TB) (gx_rm 5) (gx_Pre Z u [.ref (Z.2.1 v0), .ref (Z.2.1 v1), .int v2, .ref (Z.2.1 v3)]) (va_Qv post (gx_B Z) (gx_A Z)) 0 0 (gx_A Z) := by
  refine gx_met (by decide +kernel) (Nat.le_of_ble_eq_true rfl) ?_
  intro E X hZ hQ hD hL
  subst hZ
  exact w_X10_digest X (Nat.le_of_eq hD.symm) hQ h
-- PlainSealModel.digest()I
theorem dX10_digest__0 : decode cX10_digest_ 0 = .ok (.aload_n 0, 1) := by decide +kernel
theorem dX10_digest__1 : decode cX10_digest_ 1 = .ok (.aload_n 0, 1) := by decide +kernel
theorem dX10_digest__2 : decode cX10_digest_ 2 = .ok (.getfield 13, 3) := by decide +kernel
theorem dX10_digest__5 : decode cX10_digest_ 5 = .ok (.aload_n 0, 1) := by decide +kernel
theorem dX10_digest__6 : decode cX10_digest_ 6 = .ok (.invokevirtual 112, 3) := by decide +kernel
theorem dX10_digest__9 : decode cX10_digest_ 9 = .ok (.aload_n 0, 1) := by decide +kernel
theorem dX10_digest__10 : decode cX10_digest_ 10 = .ok (.getfield 86, 3) := by decide +kernel
theorem dX10_digest__13 : decode cX10_digest_ 13 = .ok (.invokevirtual 231, 3) := by decide +kernel
theorem dX10_digest__16 : decode cX10_digest_ 16 = .ok (.aload_n 0, 1) := by decide +kernel
theorem dX10_digest__17 : decode cX10_digest_ 17 = .ok (.getfield 86, 3) := by decide +kernel
theorem dX10_digest__20 : decode cX10_digest_ 20 = .ok (.iconst 0, 1) := by decide +kernel
theorem dX10_digest__21 : decode cX10_digest_ 21 = .ok (.aload_n 0, 1) := by decide +kernel
theorem dX10_digest__22 : decode cX10_digest_ 22 = .ok (.getfield 17, 3) := by decide +kernel
theorem dX10_digest__25 : decode cX10_digest_ 25 = .ok (.iconst 0, 1) := by decide +kernel
theorem dX10_digest__26 : decode cX10_digest_ 26 = .ok (.bipush 32, 2) := by decide +kernel
theorem dX10_digest__28 : decode cX10_digest_ 28 = .ok (.invokestatic 134, 3) := by decide +kernel
theorem dX10_digest__31 : decode cX10_digest_ 31 = .ok (.aload_n 0, 1) := by decide +kernel
theorem dX10_digest__32 : decode cX10_digest_ 32 = .ok (.bipush 32, 2) := by decide +kernel
theorem dX10_digest__34 : decode cX10_digest_ 34 = .ok (.putfield 166, 3) := by decide +kernel
theorem dX10_digest__37 : decode cX10_digest_ 37 = .ok (.bipush 32, 2) := by decide +kernel
theorem dX10_digest__39 : decode cX10_digest_ 39 = .ok (.ireturn, 1) := by decide +kernel
theorem hyX10_digest_ : yX10_digest_.cls ≠ "java/lang/invoke/MethodHandle" ∧ yX10_digest_.cls ≠ "java/lang/invoke/VarHandle" ∧ (parseMethodDescriptor yX10_digest_.desc).map (fun d => d.parameters.length) = some 0 := by decide +kernel
def S_X10_digest_ (u : gx_S) (v0 : Nat) (post : Int32 → gx_S → Prop) : Prop := (gx_isO v0 9 ∧ (S_X10_used u v0 (fun (r3 : Int32) (u2 : gx_S) => (S_X10_digest u2 v0 (gx_r u v0 0) r3 (gx_r u2 v0 25) (fun (u4 : gx_S) => (gx_isR (gx_r u4 v0 25) .byte ∧ gx_isA (gx_r u4 v0 3) .byte ∧ ¬ (0 : Int32) < 0 ∧ ¬ (0 : Int32) < 0 ∧ ¬ (32 : Int32) < 0 ∧ (0 : Int32).toNatClampNeg + (32 : Int32).toNatClampNeg ≤ gx_len (gx_r u4 v0 25) ∧ (0 : Int32).toNatClampNeg + (32 : Int32).toNatClampNeg ≤ gx_len (gx_r u4 v0 3) ∧ ∀ u12 : gx_S, u12 = gx_pa u4 (gx_r u4 v0 3) (va_cpy (gx_a u4 (gx_r u4 v0 25)) (gx_a u4 (gx_r u4 v0 3)) (0 : Int32).toNatClampNeg (0 : Int32).toNatClampNeg (32 : Int32).toNatClampNeg) → (∀ u13 : gx_S, u13 = gx_pi u12 v0 2 (32 : Int32) → post (32 : Int32) u13)))))))
set_option maxHeartbeats 4000000 in
set_option maxRecDepth 100000 in
theorem w_X10_digest_ {E : gx_E} (X : gx_X E cX10_digest_ 1 RX10 (some .int)) (hd : 6 ≤ ex_d E) {post : Int32 → gx_S → Prop} (hQ : ex_Q E = va_Qi post (gx_B (ex_Z E)) (gx_A (ex_Z E))) {u : gx_S} {v0 : Nat} (h : S_X10_digest_ u v0 post) : gx_Wc E 1 0 [(0, .ref (ex_ad E v0))] [] u := by
  unfold S_X10_digest_ at h
  refine gx_aload_n X (j := 0) dX10_digest__0 rfl rfl ?_
  refine gx_aload_n X (j := 0) dX10_digest__1 rfl rfl ?_
  obtain ⟨k1, h⟩ := h
  refine gx_get X k1 rfl iwX10 0 (by decide) mw_521 (v := .ref (ex_ad E (gx_r u v0 0))) rfl dX10_digest__2 ?_
  refine gx_aload_n X (j := 0) dX10_digest__5 rfl rfl ?_
  refine gx_ki (gx_rV X (c_X10_used h) (Nat.le_trans (by decide) hd) (Nat.le_trans (by decide) (Nat.mul_le_mul_left 40 hd)) k1 rfl mw_625 mw_627 mp_12 mw_7 mw_628 hyX10_used (As := []) (rest := [.ref (ex_ad E (gx_r u v0 0)), .ref (ex_ad E v0)]) rfl rfl (Nat.le_of_ble_eq_true rfl) dX10_digest__6) (fun r3 u2 h => ?_)
  refine gx_aload_n X (j := 0) dX10_digest__9 rfl rfl ?_
  refine gx_get X k1 rfl iwX10 25 (by decide) mw_546 (v := .ref (ex_ad E (gx_r u2 v0 25))) rfl dX10_digest__10 ?_
  refine gx_kv (gx_rV X (c_X10_digest h) (Nat.le_trans (by decide) hd) (Nat.le_trans (by decide) (Nat.mul_le_mul_left 40 hd)) k1 rfl mw_718 mw_720 mp_18 mw_7 mw_721 hyX10_digest (As := [.ref (ex_ad E (gx_r u v0 0)), .int r3, .ref (ex_ad E (gx_r u2 v0 25))]) (rest := []) rfl rfl (Nat.le_of_ble_eq_true rfl) dX10_digest__13) (fun u4 h => ?_)
  refine gx_aload_n X (j := 0) dX10_digest__16 rfl rfl ?_
  refine gx_get X k1 rfl iwX10 25 (by decide) mw_546 (v := .ref (ex_ad E (gx_r u4 v0 25))) rfl dX10_digest__17 ?_
  refine gx_iconst X (v := 0) dX10_digest__20 (by decide) ?_
  refine gx_aload_n X (j := 0) dX10_digest__21 rfl rfl ?_
  refine gx_get X k1 rfl iwX10 3 (by decide) mw_524 (v := .ref (ex_ad E (gx_r u4 v0 3))) rfl dX10_digest__22 ?_
  refine gx_iconst X (v := 0) dX10_digest__25 (by decide) ?_
  refine gx_bipush X (v := 32) dX10_digest__26 (by decide) ?_
  obtain ⟨k5, h⟩ := h
  obtain ⟨k6, h⟩ := h
  obtain ⟨k7, k8, k9, k10, k11, h⟩ := h
  refine gx_copy X (Nat.le_trans (by decide) hd) k5 k6 rfl k7 k8 k9 k10 k11 mw_648 mw_339 mw_338 mw_12 (Nat.le_of_ble_eq_true rfl) dX10_digest__28 ?_
  refine gx_nams (fun u12 eu12 => ?_)
  replace h := h u12 eu12
  refine gx_aload_n X (j := 0) dX10_digest__31 rfl rfl ?_
  refine gx_bipush X (v := 32) dX10_digest__32 (by decide) ?_
  refine gx_put X k1 rfl iwX10 tyX10_ok nmX10 2 (by decide) mw_523 rfl rfl rfl (fun _ => rfl) dX10_digest__34 ?_
  refine gx_nams (fun u13 eu13 => ?_)
  replace h := h u13 eu13
  refine gx_bipush X (v := 32) dX10_digest__37 (by decide) ?_
  exact gx_iret X hQ h dX10_digest__39
theorem c_X10_digest_ {l : Launch} {Z : gx_Z} {u : gx_S} {v0 : Nat} {post : Int32 → gx_S → Prop} (h : S_X10_digest_ u v0 post) : Met l yX10_digest_ (Cond.code yX10_digest_ cX10_digest_ 1 (some .int) :: gx_TB) (gx_rm 6) (gx_Pre Z u [.ref (Z.2.1 v0)]) (va_Qi post (gx_B Z) (gx_A Z)) 0 0 (gx_A Z) := by
  refine gx_met (by decide +kernel) (Nat.le_of_ble_eq_true rfl) ?_
  intro E X hZ hQ hD hL
  subst hZ
  exact w_X10_digest_ X (Nat.le_of_eq hD.symm) hQ h
theorem dig_len (HC K : Nat → Int32) (T : List Nat) : (dig HC K T).length = 32 := dgB_len _ 8
theorem q_digest {u : gx_S} {t k : Nat} {T O M G : List Nat} {HC KC : Nat → Int32} {post : Int32 → gx_S → Prop} (h : mS u t T O M k G HC KC) (h1 : ∀ v, exM u v → mS v t [] (dig HC KC T) M k G HC KC → post 32 v) : S_X10_digest_ u 21 post := by
  have hT := h.2.2.1
  refine ⟨isO21, isO21, ?_⟩
  intro x2 e2 u3 e3
  have s := mS_t h (v := u3) (T' := []) (by rw [e3]; exact exG_pi _ _ (by simp)) (by rw [e3]; exact mt_cut hT (n := 0) (by omega))
  have a28 : gx_a u3 28 = gx_a u 28 := by rw [e3]; rfl
  have hf := s.1.2.1
  have hh := s.1.2.2.2.2.2.2
  rw [e2, hT.1, show gx_r u 21 0 = 28 from h.2.1 21 0 (by decide) (by decide), show gx_r u3 21 25 = 57 from hf 21 25 (by decide) (by decide)]
  refine ⟨isO21, ?_⟩
  rw [show gx_r u3 21 19 = 27 from hf 21 19 (by decide) (by decide)]
  refine ⟨isO27, isO27, ?_⟩
  rw [show gx_r u3 27 0 = 47 from hf 27 0 (by decide) (by decide), show gx_r u3 27 1 = 48 from hf 27 1 (by decide) (by decide)]
  refine ⟨isA47.r, isA48, by decide, by decide, by decide, by decide, by decide, fun u9 e9 u10 e10 u11 e11 => ?_⟩
  have x11 : exH u3 u11 := exG_tr (v := u9) (by rw [e9]; exact exG_pa _ _ (by simp)) (exG_tr (v := u10) (by rw [e10]; exact exG_pi _ _ (by simp)) (by rw [e11]; exact exG_pl _ _))
  have f11 := exG_mfix x11 hf
  have s11 : hS u11 HC KC [] := by
    refine S_nil (by subst e11 e10; rfl) (by subst e11; rfl) (fun j hj => ?_) (fun j hj => ?_)
    · have g : gx_a u11 48 = va_cpy (gx_a u3 47) (gx_a u3 48) 0 0 8 := by subst e11 e10 e9; rfl
      rw [g, sb_cpy0 hj]
      exact hh.1 j hj
    · rw [x11.2.2 50 (by decide)]; exact hh.2 j hj
  dsimp only
  rw [show gx_r u11 21 19 = 27 from f11 21 19 (by decide) (by decide)]
  refine ⟨isO27, rfl, rfl, rfl, t, HC, KC, T, f11, s11, by rw [x11.2.2 28 (by decide), a28]; exact hT.2.2, hT.2.1, rfl, fun v5 x5 m5 => ?_⟩
  have f5 := exG_mfix x5 f11
  dsimp only
  rw [show gx_r v5 21 19 = 27 from f5 21 19 (by decide) (by decide)]
  refine ⟨isO27, rfl, rfl, rfl, t, HC, KC, T, f5, m5, hT.2.1, fun v7 x7 m7 => ?_⟩
  have x37 : exG [48, 49, 51, 57] [(27, 5)] u3 v7 := exG_tr (exG_wk (exG_tr x11 x5) (by simp) (by simp)) x7
  have s7 := mS_x s.1 x37 (by decide) (by decide)
  have f7 := s7.1.2.1
  dsimp only
  rw [show gx_r v7 21 25 = 57 from f7 21 25 (by decide) (by decide), show gx_r v7 21 3 = 29 from f7 21 3 (by decide) (by decide)]
  refine ⟨isA57.r, isA29, by decide, by decide, by decide, by decide, by decide, fun u12 e12 u13 e13 => ?_⟩
  have x13 : exG [29] [(21, 2)] v7 u13 := exG_tr (v := u12) (by rw [e12]; exact exG_pa _ _ (by simp)) (by rw [e13]; exact exG_pi _ _ (by simp))
  have hmo : mo u13 (dig HC KC T) := by
    refine ⟨by rw [e13, gx_i_pi, if_pos ⟨rfl, rfl⟩, dig_len]; rfl, by rw [dig_len]; omega, m7.1, fun j hj => ?_⟩
    have g : gx_a u13 29 = va_cpy (gx_a v7 57) (gx_a v7 29) 0 0 32 := by subst e13 e12; rfl
    rw [g, sb_cpy0 (by rw [dig_len] at hj; exact hj)]
    exact m7.2 j hj
  have s13 := mS_o s7.1 x13 hmo
  exact h1 u13 (exM_tr s.2 (exM_tr s7.2 s13.2)) s13.1

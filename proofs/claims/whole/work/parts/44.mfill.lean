-- java/util/Arrays.fill([II)V
theorem dJ7_fill_53178_0 : decode cJ7_fill_53178 0 = .ok (.iconst 0, 1) := by decide +kernel
theorem dJ7_fill_53178_1 : decode cJ7_fill_53178 1 = .ok (.istore_n 2, 1) := by decide +kernel
theorem dJ7_fill_53178_2 : decode cJ7_fill_53178 2 = .ok (.aload_n 0, 1) := by decide +kernel
theorem dJ7_fill_53178_3 : decode cJ7_fill_53178 3 = .ok (.arraylength, 1) := by decide +kernel
theorem dJ7_fill_53178_4 : decode cJ7_fill_53178 4 = .ok (.istore_n 3, 1) := by decide +kernel
theorem dJ7_fill_53178_5 : decode cJ7_fill_53178 5 = .ok (.iload_n 2, 1) := by decide +kernel
theorem dJ7_fill_53178_6 : decode cJ7_fill_53178 6 = .ok (.iload_n 3, 1) := by decide +kernel
theorem dJ7_fill_53178_7 : decode cJ7_fill_53178 7 = .ok (.if_icmp .ge 13, 3) := by decide +kernel
theorem dJ7_fill_53178_10 : decode cJ7_fill_53178 10 = .ok (.aload_n 0, 1) := by decide +kernel
theorem dJ7_fill_53178_11 : decode cJ7_fill_53178 11 = .ok (.iload_n 2, 1) := by decide +kernel
theorem dJ7_fill_53178_12 : decode cJ7_fill_53178 12 = .ok (.iload_n 1, 1) := by decide +kernel
theorem dJ7_fill_53178_13 : decode cJ7_fill_53178 13 = .ok (.iastore, 1) := by decide +kernel
theorem dJ7_fill_53178_14 : decode cJ7_fill_53178 14 = .ok (.iinc 2 1, 3) := by decide +kernel
theorem dJ7_fill_53178_17 : decode cJ7_fill_53178 17 = .ok (.goto (-12), 3) := by decide +kernel
theorem dJ7_fill_53178_20 : decode cJ7_fill_53178 20 = .ok (.return_, 1) := by decide +kernel
theorem hyJ7_fill_53178 : yJ7_fill_53178.cls ≠ "java/lang/invoke/MethodHandle" ∧ yJ7_fill_53178.cls ≠ "java/lang/invoke/VarHandle" ∧ (parseMethodDescriptor yJ7_fill_53178.desc).map (fun d => d.parameters.length) = some 2 := by decide +kernel
abbrev J_J7_fill_53178_5 (E : gx_E) (v0 : Nat) (v1 : Int32) (v2 : Int32) (v3 : Int32) (u : gx_S) : Prop := gx_Wc E 4 5 [(0, .ref (ex_ad E v0)), (1, .int v1), (2, .int v2), (3, .int v3)] [] u
set_option maxHeartbeats 4000000 in
set_option maxRecDepth 100000 in
theorem w_J7_fill_53178_0 {E : gx_E} (X : gx_X E cJ7_fill_53178 4 RJ7 none) (hd : 0 ≤ ex_d E) {post : gx_S → Prop} (hQ : ex_Q E = va_Qv post (gx_B (ex_Z E)) (gx_A (ex_Z E))) {u : gx_S} {v0 : Nat} {v1 : Int32} (h : (gx_isR v0 .int ∧ (∀ x2 : Int32, x2 = (nI (gx_len v0)) → J_J7_fill_53178_5 E v0 v1 (0 : Int32) x2 u))) : gx_Wc E 4 0 [(0, .ref (ex_ad E v0)), (1, .int v1)] [] u := by
  refine gx_iconst X (v := 0) dJ7_fill_53178_0 (by decide) ?_
  refine gx_istore_n X (lv' := [(2, .int (0 : Int32)), (0, .ref (ex_ad E v0)), (1, .int v1)]) dJ7_fill_53178_1 rfl (by decide) rfl ?_
  refine gx_aload_n X (j := 1) dJ7_fill_53178_2 rfl rfl ?_
  obtain ⟨k1, h⟩ := h
  refine gx_alen X k1 dJ7_fill_53178_3 ?_
  refine gx_nami (fun x2 ex2 => ?_)
  replace h := h x2 ex2
  refine gx_istore_n X (lv' := [(3, .int x2), (2, .int (0 : Int32)), (0, .ref (ex_ad E v0)), (1, .int v1)]) dJ7_fill_53178_4 rfl (by decide) rfl ?_
  exact gx_sub [2, 3, 1, 0] rfl h
set_option maxHeartbeats 4000000 in
set_option maxRecDepth 100000 in
theorem w_J7_fill_53178_5 {E : gx_E} (X : gx_X E cJ7_fill_53178 4 RJ7 none) (hd : 0 ≤ ex_d E) {post : gx_S → Prop} (hQ : ex_Q E = va_Qv post (gx_B (ex_Z E)) (gx_A (ex_Z E))) {u : gx_S} {v0 : Nat} {v1 : Int32} {v2 : Int32} {v3 : Int32} (h : ((v3 ≤ v2 → post u) ∧ (¬ v3 ≤ v2 → (gx_isA v0 .int ∧ vp_in v2 (gx_len v0) ∧ ∀ u3 : gx_S, u3 = gx_pa u v0 (upd (gx_a u v0) v2.toNatClampNeg v1) → (∀ x4 : Int32, x4 = v2 + 1 → J_J7_fill_53178_5 E v0 v1 x4 v3 u3))))) : gx_Wc E 4 5 [(0, .ref (ex_ad E v0)), (1, .int v1), (2, .int v2), (3, .int v3)] [] u := by
  refine gx_iload_n X (j := 2) dJ7_fill_53178_5 rfl rfl ?_
  refine gx_iload_n X (j := 3) dJ7_fill_53178_6 rfl rfl ?_
  refine gx_icmp_ge X (tgt := 20) dJ7_fill_53178_7 (by decide) (fun c5 => ?_) (fun c5 => ?_)
  · replace h := h.1 c5
    exact gx_vret X hQ h dJ7_fill_53178_20
  · replace h := h.2 c5
    refine gx_aload_n X (j := 0) dJ7_fill_53178_10 rfl rfl ?_
    refine gx_iload_n X (j := 2) dJ7_fill_53178_11 rfl rfl ?_
    refine gx_iload_n X (j := 1) dJ7_fill_53178_12 rfl rfl ?_
    obtain ⟨k1, h⟩ := h
    obtain ⟨k2, h⟩ := h
    refine gx_iast X k1 k2 dJ7_fill_53178_13 ?_
    refine gx_nams (fun u3 eu3 => ?_)
    replace h := h u3 eu3
    obtain ⟨x4, ex4⟩ : ∃ y : Int32, y = v2 + 1 := ⟨_, rfl⟩
    replace h := h x4 ex4
    refine gx_iinc X (v := x4) (lv' := [(2, .int x4), (0, .ref (ex_ad E v0)), (1, .int v1), (3, .int v3)]) dJ7_fill_53178_14 (j := 2) rfl (by rw [ex4]; rfl) (by decide) rfl ?_
    refine gx_goto X (tgt := 5) dJ7_fill_53178_17 (by decide) ?_
    exact gx_sub [1, 2, 0, 3] rfl h
-- fill
def S_J7_fill_53178 (u : gx_S) (v0 : Nat) (v1 : Int32) (post : gx_S → Prop) : Prop := gx_isA v0 .int ∧ gx_len v0 < 2 ^ 20 ∧ v1 = 0 ∧ ∀ v, exA [v0] u v → (∀ j, j < gx_len v0 → gx_a v v0 j = 0) → post v
theorem w_J7_fill_53178 {E : gx_E} (X : gx_X E cJ7_fill_53178 4 RJ7 none) (hd : 0 ≤ ex_d E) {post : gx_S → Prop} (hQ : ex_Q E = va_Qv post (gx_B (ex_Z E)) (gx_A (ex_Z E))) {u : gx_S} {v0 : Nat} {v1 : Int32} (h : S_J7_fill_53178 u v0 v1 post) : gx_Wc E 4 0 [(0, .ref (ex_ad E v0)), (1, .int v1)] [] u := by
  obtain ⟨ha, hl, rfl, hp⟩ := h
  have lp : ∀ (n i : Nat) (v : gx_S), gx_len v0 - i = n → i ≤ gx_len v0 → exA [v0] u v → (∀ j, j < i → gx_a v v0 j = 0) → J_J7_fill_53178_5 E v0 0 (nI i) (nI (gx_len v0)) v := by
    intro n
    induction n with
    | zero =>
      intro i v hn hi hx hz
      exact w_J7_fill_53178_5 X hd hQ ⟨fun _ => hp v hx (fun j hj => hz j (by omega)), fun q => absurd (nI_le (by omega) (by omega)) q⟩
    | succ n ih =>
      intro i v hn hi hx hz
      refine w_J7_fill_53178_5 X hd hQ ⟨fun q => absurd q (nI_ge (by omega) (by omega)), fun _ => ⟨ha, vp_in_nI (by omega) (by omega), ?_⟩⟩
      rintro u3 rfl x4 rfl
      rw [nI_1, nI_clamp (by omega)]
      refine ih (i + 1) _ (by omega) (by omega) (exA_tr hx (exA_pa _ _ (by simp))) (fun j hj => ?_)
      rw [gx_a_pa, if_pos rfl]
      by_cases e : j = i
      · rw [e, pk_us]
      · rw [pk_un e]; exact hz j (by omega)
  refine w_J7_fill_53178_0 X hd hQ ⟨ha.r, ?_⟩
  rintro x2 rfl
  exact lp _ 0 u rfl (by omega) (exA_rf _ _) (fun j hj => absurd hj (by omega))
theorem c_J7_fill_53178 {l : Launch} {Z : gx_Z} {u : gx_S} {v0 : Nat} {v1 : Int32} {post : gx_S → Prop} (h : S_J7_fill_53178 u v0 v1 post) : Met l yJ7_fill_53178 (Cond.code yJ7_fill_53178 cJ7_fill_53178 4 none :: gx_TB) (gx_rm 0) (gx_Pre Z u [.ref (Z.2.1 v0), .int v1]) (va_Qv post (gx_B Z) (gx_A Z)) 0 0 (gx_A Z) := by
  refine gx_met (by decide +kernel) (Nat.le_of_ble_eq_true rfl) ?_
  intro E X hZ hQ hD hL
  subst hZ
  exact w_J7_fill_53178 X (Nat.le_of_eq hD.symm) hQ h
-- PlainSealModel.digits([B[I)V
theorem dX10_digits_0 : decode cX10_digits 0 = .ok (.aload_n 1, 1) := by decide +kernel
theorem dX10_digits_1 : decode cX10_digits 1 = .ok (.iconst 0, 1) := by decide +kernel
theorem dX10_digits_2 : decode cX10_digits 2 = .ok (.invokestatic 214, 3) := by decide +kernel
theorem dX10_digits_5 : decode cX10_digits 5 = .ok (.iconst 0, 1) := by decide +kernel
theorem dX10_digits_6 : decode cX10_digits 6 = .ok (.istore_n 2, 1) := by decide +kernel
theorem dX10_digits_7 : decode cX10_digits 7 = .ok (.iload_n 2, 1) := by decide +kernel
theorem dX10_digits_8 : decode cX10_digits 8 = .ok (.bipush 64, 2) := by decide +kernel
theorem dX10_digits_10 : decode cX10_digits 10 = .ok (.if_icmp .ge 37, 3) := by decide +kernel
theorem dX10_digits_13 : decode cX10_digits 13 = .ok (.aload_n 1, 1) := by decide +kernel
theorem dX10_digits_14 : decode cX10_digits 14 = .ok (.bipush 63, 2) := by decide +kernel
theorem dX10_digits_16 : decode cX10_digits 16 = .ok (.iload_n 2, 1) := by decide +kernel
theorem dX10_digits_17 : decode cX10_digits 17 = .ok (.isub, 1) := by decide +kernel
theorem dX10_digits_18 : decode cX10_digits 18 = .ok (.iconst 2, 1) := by decide +kernel
theorem dX10_digits_19 : decode cX10_digits 19 = .ok (.idiv, 1) := by decide +kernel
theorem dX10_digits_20 : decode cX10_digits 20 = .ok (.dup2, 1) := by decide +kernel
theorem dX10_digits_21 : decode cX10_digits 21 = .ok (.iaload, 1) := by decide +kernel
theorem dX10_digits_22 : decode cX10_digits 22 = .ok (.aload_n 0, 1) := by decide +kernel
theorem dX10_digits_23 : decode cX10_digits 23 = .ok (.iload_n 2, 1) := by decide +kernel
theorem dX10_digits_24 : decode cX10_digits 24 = .ok (.baload, 1) := by decide +kernel
theorem dX10_digits_25 : decode cX10_digits 25 = .ok (.sipush 255, 3) := by decide +kernel
theorem dX10_digits_28 : decode cX10_digits 28 = .ok (.iand, 1) := by decide +kernel
theorem dX10_digits_29 : decode cX10_digits 29 = .ok (.bipush 8, 2) := by decide +kernel
theorem dX10_digits_31 : decode cX10_digits 31 = .ok (.bipush 63, 2) := by decide +kernel
theorem dX10_digits_33 : decode cX10_digits 33 = .ok (.iload_n 2, 1) := by decide +kernel
theorem dX10_digits_34 : decode cX10_digits 34 = .ok (.isub, 1) := by decide +kernel
theorem dX10_digits_35 : decode cX10_digits 35 = .ok (.iconst 2, 1) := by decide +kernel
theorem dX10_digits_36 : decode cX10_digits 36 = .ok (.irem, 1) := by decide +kernel
theorem dX10_digits_37 : decode cX10_digits 37 = .ok (.imul, 1) := by decide +kernel
theorem dX10_digits_38 : decode cX10_digits 38 = .ok (.ishl, 1) := by decide +kernel
theorem dX10_digits_39 : decode cX10_digits 39 = .ok (.ior, 1) := by decide +kernel
theorem dX10_digits_40 : decode cX10_digits 40 = .ok (.iastore, 1) := by decide +kernel
theorem dX10_digits_41 : decode cX10_digits 41 = .ok (.iinc 2 1, 3) := by decide +kernel
theorem dX10_digits_44 : decode cX10_digits 44 = .ok (.goto (-37), 3) := by decide +kernel
theorem dX10_digits_47 : decode cX10_digits 47 = .ok (.return_, 1) := by decide +kernel
theorem hyX10_digits : yX10_digits.cls ≠ "java/lang/invoke/MethodHandle" ∧ yX10_digits.cls ≠ "java/lang/invoke/VarHandle" ∧ (parseMethodDescriptor yX10_digits.desc).map (fun d => d.parameters.length) = some 2 := by decide +kernel
abbrev J_X10_digits_7 (E : gx_E) (v0 : Nat) (v1 : Nat) (v2 : Int32) (u : gx_S) : Prop := gx_Wc E 3 7 [(0, .ref (ex_ad E v0)), (1, .ref (ex_ad E v1)), (2, .int v2)] [] u
set_option maxHeartbeats 4000000 in
set_option maxRecDepth 100000 in
theorem w_X10_digits_0 {E : gx_E} (X : gx_X E cX10_digits 3 RX10 none) (hd : 1 ≤ ex_d E) {post : gx_S → Prop} (hQ : ex_Q E = va_Qv post (gx_B (ex_Z E)) (gx_A (ex_Z E))) {u : gx_S} {v0 : Nat} {v1 : Nat} (h : (S_J7_fill_53178 u v1 (0 : Int32) (fun (u1 : gx_S) => J_X10_digits_7 E v0 v1 (0 : Int32) u1))) : gx_Wc E 3 0 [(0, .ref (ex_ad E v0)), (1, .ref (ex_ad E v1))] [] u := by
  refine gx_aload_n X (j := 1) dX10_digits_0 rfl rfl ?_
  refine gx_iconst X (v := 0) dX10_digits_1 (by decide) ?_
  refine gx_kv (gx_rS X (c_J7_fill_53178 h) (Nat.le_trans (by decide) hd) (Nat.le_trans (by decide) (Nat.mul_le_mul_left 40 hd)) mw_758 mw_759 mw_15 mw_760 hyJ7_fill_53178 (As := [.ref (ex_ad E v1), .int (0 : Int32)]) (rest := []) rfl rfl (Nat.le_of_ble_eq_true rfl) dX10_digits_2) (fun u1 h => ?_)
  refine gx_iconst X (v := 0) dX10_digits_5 (by decide) ?_
  refine gx_istore_n X (lv' := [(2, .int (0 : Int32)), (0, .ref (ex_ad E v0)), (1, .ref (ex_ad E v1))]) dX10_digits_6 rfl (by decide) rfl ?_
  exact gx_sub [1, 2, 0] rfl h
set_option maxHeartbeats 4000000 in
set_option maxRecDepth 100000 in
theorem w_X10_digits_7 {E : gx_E} (X : gx_X E cX10_digits 3 RX10 none) (hd : 1 ≤ ex_d E) {post : gx_S → Prop} (hQ : ex_Q E = va_Qv post (gx_B (ex_Z E)) (gx_A (ex_Z E))) {u : gx_S} {v0 : Nat} {v1 : Nat} {v2 : Int32} (h : (((64 : Int32) ≤ v2 → post u) ∧ (¬ (64 : Int32) ≤ v2 → (gx_isR v1 .int ∧ vp_in (((63 : Int32) - v2) / (2 : Int32)) (gx_len v1) ∧ (gx_isR v0 .byte ∧ vp_in v2 (gx_len v0) ∧ (gx_isA v1 .int ∧ vp_in (((63 : Int32) - v2) / (2 : Int32)) (gx_len v1) ∧ ∀ u7 : gx_S, u7 = gx_pa u v1 (upd (gx_a u v1) (((63 : Int32) - v2) / (2 : Int32)).toNatClampNeg ((gx_a u v1 (((63 : Int32) - v2) / (2 : Int32)).toNatClampNeg) ||| (((gx_a u v0 v2.toNatClampNeg) &&& (255 : Int32)) <<< (((8 : Int32) * (((63 : Int32) - v2) - ((63 : Int32) - v2) / (2 : Int32) * (2 : Int32))) &&& 31)))) → (∀ x8 : Int32, x8 = v2 + 1 → J_X10_digits_7 E v0 v1 x8 u7))))))) : gx_Wc E 3 7 [(0, .ref (ex_ad E v0)), (1, .ref (ex_ad E v1)), (2, .int v2)] [] u := by
  refine gx_iload_n X (j := 2) dX10_digits_7 rfl rfl ?_
  refine gx_bipush X (v := 64) dX10_digits_8 (by decide) ?_
  refine gx_icmp_ge X (tgt := 47) dX10_digits_10 (by decide) (fun c9 => ?_) (fun c9 => ?_)
  · replace h := h.1 c9
    exact gx_vret X hQ h dX10_digits_47
  · replace h := h.2 c9
    refine gx_aload_n X (j := 1) dX10_digits_13 rfl rfl ?_
    refine gx_bipush X (v := 63) dX10_digits_14 (by decide) ?_
    refine gx_iload_n X (j := 2) dX10_digits_16 rfl rfl ?_
    refine gx_isub X dX10_digits_17 ?_
    refine gx_iconst X (v := 2) dX10_digits_18 (by decide) ?_
    refine gx_idiv X dX10_digits_19 (by decide) ?_
    refine gx_dup2_11 X dX10_digits_20 rfl rfl ?_
    obtain ⟨k1, h⟩ := h
    obtain ⟨k2, h⟩ := h
    refine gx_iald X k1 k2 dX10_digits_21 ?_
    refine gx_aload_n X (j := 0) dX10_digits_22 rfl rfl ?_
    refine gx_iload_n X (j := 2) dX10_digits_23 rfl rfl ?_
    obtain ⟨k3, h⟩ := h
    obtain ⟨k4, h⟩ := h
    refine gx_bald X k3 k4 dX10_digits_24 ?_
    refine gx_sipush X (v := 255) dX10_digits_25 (by decide) ?_
    refine gx_iand X dX10_digits_28 ?_
    refine gx_bipush X (v := 8) dX10_digits_29 (by decide) ?_
    refine gx_bipush X (v := 63) dX10_digits_31 (by decide) ?_
    refine gx_iload_n X (j := 2) dX10_digits_33 rfl rfl ?_
    refine gx_isub X dX10_digits_34 ?_
    refine gx_iconst X (v := 2) dX10_digits_35 (by decide) ?_
    refine gx_irem X dX10_digits_36 (by decide) ?_
    refine gx_imul X dX10_digits_37 ?_
    refine gx_ishl X dX10_digits_38 ?_
    refine gx_ior X dX10_digits_39 ?_
    obtain ⟨k5, h⟩ := h
    obtain ⟨k6, h⟩ := h
    refine gx_iast X k5 k6 dX10_digits_40 ?_
    refine gx_nams (fun u7 eu7 => ?_)
    replace h := h u7 eu7
    obtain ⟨x8, ex8⟩ : ∃ y : Int32, y = v2 + 1 := ⟨_, rfl⟩
    replace h := h x8 ex8
    refine gx_iinc X (v := x8) (lv' := [(2, .int x8), (0, .ref (ex_ad E v0)), (1, .ref (ex_ad E v1))]) dX10_digits_41 (j := 2) rfl (by rw [ex8]; rfl) (by decide) rfl ?_
    refine gx_goto X (tgt := 7) dX10_digits_44 (by decide) ?_
    exact gx_sub [1, 2, 0] rfl h
-- digits
theorem bs8 : ∀ r, r < 2 → ∀ c, c < 256 → (sb_b c &&& 255) <<< (nI (8 * r) &&& 31) = nI (c * 256 ^ r) := by decide +kernel
def gi (B : Nat → Nat) (k i : Nat) : Nat := (if 62 - 2 * i < k then B (62 - 2 * i) * 256 else 0) + (if 63 - 2 * i < k then B (63 - 2 * i) else 0)
def S_X10_digits (u : gx_S) (v0 v1 : Nat) (post : gx_S → Prop) : Prop := gx_isR v0 .byte ∧ gx_len v0 = 64 ∧ gx_isA v1 .int ∧ gx_len v1 = 33 ∧ v0 ≠ v1 ∧ ∃ B : Nat → Nat, (∀ j, j < 64 → gx_a u v0 j = sb_b (B j) ∧ B j < 256) ∧ ∀ v, exA [v1] u v → (∀ i, i < 32 → gx_a v v1 i = nI (B (62 - 2 * i) * 256 + B (63 - 2 * i))) → gx_a v v1 32 = 0 → post v
theorem w_X10_digits {E : gx_E} (X : gx_X E cX10_digits 3 RX10 none) (hd : 1 ≤ ex_d E) {post : gx_S → Prop} (hQ : ex_Q E = va_Qv post (gx_B (ex_Z E)) (gx_A (ex_Z E))) {u : gx_S} {v0 v1 : Nat} (h : S_X10_digits u v0 v1 post) : gx_Wc E 3 0 [(0, .ref (ex_ad E v0)), (1, .ref (ex_ad E v1))] [] u := by
  obtain ⟨h0, hl0, h1, hl1, hne, B, hB, hp⟩ := h
  have lp : ∀ (n k : Nat) (v : gx_S), 64 - k = n → k ≤ 64 → exA [v1] u v → (∀ i, i < 32 → gx_a v v1 i = nI (gi B k i)) → gx_a v v1 32 = 0 → J_X10_digits_7 E v0 v1 (nI k) v := by
    intro n
    induction n with
    | zero =>
      intro k v hn hk hx hg hz
      have ek : k = 64 := by omega
      subst ek
      refine w_X10_digits_7 X hd hQ ⟨fun _ => hp v hx (fun i hi => ?_) hz, fun q => absurd (nI_le (a := 64) (by omega) (by omega)) q⟩
      rw [hg i hi]
      unfold gi
      rw [if_pos (by omega), if_pos (by omega)]
    | succ n ih =>
      intro k v hn hk hx hg hz
      obtain ⟨b1, b2'⟩ := hB k (by omega)
      have hm : (63 - k) % 2 < 2 := Nat.mod_lt _ (by omega)
      refine w_X10_digits_7 X hd hQ ⟨fun q => absurd q (nI_ge (b := 64) (by omega) (by omega)), fun _ => ?_⟩
      rw [show (63 : Int32) = nI 63 from rfl, pk_sub (by omega), show (2 : Int32) = nI 2 from rfl, pk_div (by omega) (by omega) (by omega), pk_mul, pk_sub (by omega), show 63 - k - (63 - k) / 2 * 2 = (63 - k) % 2 by omega, show (8 : Int32) = nI 8 from rfl, pk_mul, nI_clamp (show (63 - k) / 2 < 2 ^ 31 by omega), nI_clamp (show k < 2 ^ 31 by omega), hx.2.2.2 v0 (by simpa using hne), b1, bs8 _ hm _ b2', hg ((63 - k) / 2) (by omega)]
      refine ⟨h1.r, inL hl1 (by omega) (by omega), h0, inL hl0 (by omega) (by omega), h1, inL hl1 (by omega) (by omega), fun u7 e7 x8 e8 => ?_⟩
      rw [e8, nI_1]
      have hv : nI (gi B k ((63 - k) / 2)) ||| nI (B k * 256 ^ ((63 - k) % 2)) = nI (gi B (k + 1) ((63 - k) / 2)) := by
        have : (63 - k) % 2 = 0 ∨ (63 - k) % 2 = 1 := by omega
        rcases this with r | r
        · have ek : 63 - 2 * ((63 - k) / 2) = k := by omega
          have ek2 : 62 - 2 * ((63 - k) / 2) = k - 1 := by omega
          obtain ⟨_, b3⟩ := hB (k - 1) (by omega)
          unfold gi
          rw [r, ek, ek2, if_pos (by omega), if_neg (by omega), if_pos (by omega), if_pos (by omega), nI_or (by omega) (by omega), Nat.add_zero, Nat.pow_zero, Nat.mul_one, show B (k - 1) * 256 = 2 ^ 8 * B (k - 1) by omega, ← Nat.two_pow_add_eq_or_of_lt (by omega)]
        · have ek2 : 62 - 2 * ((63 - k) / 2) = k := by omega
          unfold gi
          rw [r, ek2, if_neg (by omega), if_neg (by omega), if_pos (by omega), if_neg (by omega), nI_or (by omega) (by omega)]
          simp
      rw [hv] at e7
      refine ih (k + 1) u7 (by omega) (by omega) (exA_tr hx (by rw [e7]; exact exA_pa _ _ (by simp))) (fun i hi => ?_) ?_
      · rw [e7, gx_a_pa, if_pos rfl]
        by_cases e : i = (63 - k) / 2
        · rw [e, pk_us]
        · rw [pk_un e, hg i hi]
          unfold gi
          have q1 : (62 - 2 * i < k) ↔ (62 - 2 * i < k + 1) := by omega
          have q2 : (63 - 2 * i < k) ↔ (63 - 2 * i < k + 1) := by omega
          simp only [q1, q2]
      · rw [e7, gx_a_pa, if_pos rfl, pk_un (by omega)]
        exact hz
  refine w_X10_digits_0 X hd hQ ⟨h1, by omega, rfl, fun v xv mv => lp 64 0 v rfl (by omega) xv (fun i hi => ?_) (mv 32 (by omega))⟩
  rw [mv i (by omega)]
  rfl
theorem c_X10_digits {l : Launch} {Z : gx_Z} {u : gx_S} {v0 : Nat} {v1 : Nat} {post : gx_S → Prop} (h : S_X10_digits u v0 v1 post) : Met l yX10_digits (Cond.code yX10_digits cX10_digits 3 none :: gx_TB) (gx_rm 1) (gx_Pre Z u [.ref (Z.2.1 v0), .ref (Z.2.1 v1)]) (va_Qv post (gx_B Z) (gx_A Z)) 0 0 (gx_A Z) := by
  refine gx_met (by decide +kernel) (Nat.le_of_ble_eq_true rfl) ?_
  intro E X hZ hQ hD hL
  subst hZ
  exact w_X10_digits X (Nat.le_of_eq hD.symm) hQ h
-- PlainSealModel.isBelow([I[I)Z
theorem dX10_isBelow_0 : decode cX10_isBelow 0 = .ok (.bipush 32, 2) := by decide +kernel
theorem dX10_isBelow_2 : decode cX10_isBelow 2 = .ok (.istore_n 2, 1) := by decide +kernel
theorem dX10_isBelow_3 : decode cX10_isBelow 3 = .ok (.iload_n 2, 1) := by decide +kernel
theorem dX10_isBelow_4 : decode cX10_isBelow 4 = .ok (.ifCond .lt 33, 3) := by decide +kernel
theorem dX10_isBelow_7 : decode cX10_isBelow 7 = .ok (.aload_n 0, 1) := by decide +kernel
theorem dX10_isBelow_8 : decode cX10_isBelow 8 = .ok (.iload_n 2, 1) := by decide +kernel
theorem dX10_isBelow_9 : decode cX10_isBelow 9 = .ok (.iaload, 1) := by decide +kernel
theorem dX10_isBelow_10 : decode cX10_isBelow 10 = .ok (.aload_n 1, 1) := by decide +kernel
theorem dX10_isBelow_11 : decode cX10_isBelow 11 = .ok (.iload_n 2, 1) := by decide +kernel
theorem dX10_isBelow_12 : decode cX10_isBelow 12 = .ok (.iaload, 1) := by decide +kernel
theorem dX10_isBelow_13 : decode cX10_isBelow 13 = .ok (.if_icmp .eq 18, 3) := by decide +kernel
theorem dX10_isBelow_16 : decode cX10_isBelow 16 = .ok (.aload_n 0, 1) := by decide +kernel
theorem dX10_isBelow_17 : decode cX10_isBelow 17 = .ok (.iload_n 2, 1) := by decide +kernel
theorem dX10_isBelow_18 : decode cX10_isBelow 18 = .ok (.iaload, 1) := by decide +kernel
theorem dX10_isBelow_19 : decode cX10_isBelow 19 = .ok (.aload_n 1, 1) := by decide +kernel
theorem dX10_isBelow_20 : decode cX10_isBelow 20 = .ok (.iload_n 2, 1) := by decide +kernel
theorem dX10_isBelow_21 : decode cX10_isBelow 21 = .ok (.iaload, 1) := by decide +kernel
theorem dX10_isBelow_22 : decode cX10_isBelow 22 = .ok (.if_icmp .ge 7, 3) := by decide +kernel
theorem dX10_isBelow_25 : decode cX10_isBelow 25 = .ok (.iconst 1, 1) := by decide +kernel
theorem dX10_isBelow_26 : decode cX10_isBelow 26 = .ok (.goto 4, 3) := by decide +kernel
theorem dX10_isBelow_29 : decode cX10_isBelow 29 = .ok (.iconst 0, 1) := by decide +kernel
theorem dX10_isBelow_30 : decode cX10_isBelow 30 = .ok (.ireturn, 1) := by decide +kernel
theorem dX10_isBelow_31 : decode cX10_isBelow 31 = .ok (.iinc 2 (-1), 3) := by decide +kernel
theorem dX10_isBelow_34 : decode cX10_isBelow 34 = .ok (.goto (-31), 3) := by decide +kernel
theorem dX10_isBelow_37 : decode cX10_isBelow 37 = .ok (.iconst 0, 1) := by decide +kernel
theorem dX10_isBelow_38 : decode cX10_isBelow 38 = .ok (.ireturn, 1) := by decide +kernel
theorem hyX10_isBelow : yX10_isBelow.cls ≠ "java/lang/invoke/MethodHandle" ∧ yX10_isBelow.cls ≠ "java/lang/invoke/VarHandle" ∧ (parseMethodDescriptor yX10_isBelow.desc).map (fun d => d.parameters.length) = some 2 := by decide +kernel
abbrev J_X10_isBelow_3 (E : gx_E) (v0 : Nat) (v1 : Nat) (v2 : Int32) (u : gx_S) : Prop := gx_Wc E 3 3 [(0, .ref (ex_ad E v0)), (1, .ref (ex_ad E v1)), (2, .int v2)] [] u
set_option maxHeartbeats 4000000 in
set_option maxRecDepth 100000 in
theorem w_X10_isBelow_0 {E : gx_E} (X : gx_X E cX10_isBelow 3 RX10 (some .boolean)) (hd : 0 ≤ ex_d E) {post : Int32 → gx_S → Prop} (hQ : ex_Q E = va_Qi post (gx_B (ex_Z E)) (gx_A (ex_Z E))) {u : gx_S} {v0 : Nat} {v1 : Nat} (h : J_X10_isBelow_3 E v0 v1 (32 : Int32) u) : gx_Wc E 3 0 [(0, .ref (ex_ad E v0)), (1, .ref (ex_ad E v1))] [] u := by
  refine gx_bipush X (v := 32) dX10_isBelow_0 (by decide) ?_
  refine gx_istore_n X (lv' := [(2, .int (32 : Int32)), (0, .ref (ex_ad E v0)), (1, .ref (ex_ad E v1))]) dX10_isBelow_2 rfl (by decide) rfl ?_
  exact gx_sub [1, 2, 0] rfl h
set_option maxHeartbeats 4000000 in
set_option maxRecDepth 100000 in
theorem w_X10_isBelow_3 {E : gx_E} (X : gx_X E cX10_isBelow 3 RX10 (some .boolean)) (hd : 0 ≤ ex_d E) {post : Int32 → gx_S → Prop} (hQ : ex_Q E = va_Qi post (gx_B (ex_Z E)) (gx_A (ex_Z E))) {u : gx_S} {v0 : Nat} {v1 : Nat} {v2 : Int32} (h : ((v2 < 0 → post (0 : Int32) u) ∧ (¬ v2 < 0 → (gx_isR v0 .int ∧ vp_in v2 (gx_len v0) ∧ (gx_isR v1 .int ∧ vp_in v2 (gx_len v1) ∧ (((gx_a u v0 v2.toNatClampNeg) = (gx_a u v1 v2.toNatClampNeg) → (∀ x5 : Int32, x5 = v2 + (-1) → J_X10_isBelow_3 E v0 v1 x5 u)) ∧ (¬ (gx_a u v0 v2.toNatClampNeg) = (gx_a u v1 v2.toNatClampNeg) → (vp_in v2 (gx_len v0) ∧ (vp_in v2 (gx_len v1) ∧ (((gx_a u v1 v2.toNatClampNeg) ≤ (gx_a u v0 v2.toNatClampNeg) → post (0 : Int32) u) ∧ (¬ (gx_a u v1 v2.toNatClampNeg) ≤ (gx_a u v0 v2.toNatClampNeg) → post (1 : Int32) u))))))))))) : gx_Wc E 3 3 [(0, .ref (ex_ad E v0)), (1, .ref (ex_ad E v1)), (2, .int v2)] [] u := by
  refine gx_iload_n X (j := 2) dX10_isBelow_3 rfl rfl ?_
  refine gx_if_lt X (tgt := 37) dX10_isBelow_4 (by decide) (fun c10 => ?_) (fun c10 => ?_)
  · replace h := h.1 c10
    refine gx_iconst X (v := 0) dX10_isBelow_37 (by decide) ?_
    exact gx_zret X hQ rfl h dX10_isBelow_38
  · replace h := h.2 c10
    refine gx_aload_n X (j := 0) dX10_isBelow_7 rfl rfl ?_
    refine gx_iload_n X (j := 2) dX10_isBelow_8 rfl rfl ?_
    obtain ⟨k1, h⟩ := h
    obtain ⟨k2, h⟩ := h
    refine gx_iald X k1 k2 dX10_isBelow_9 ?_
    refine gx_aload_n X (j := 1) dX10_isBelow_10 rfl rfl ?_
    refine gx_iload_n X (j := 2) dX10_isBelow_11 rfl rfl ?_
    obtain ⟨k3, h⟩ := h
    obtain ⟨k4, h⟩ := h
    refine gx_iald X k3 k4 dX10_isBelow_12 ?_
    refine gx_icmp_eq X (tgt := 31) dX10_isBelow_13 (by decide) (fun c9 => ?_) (fun c9 => ?_)
    · replace h := h.1 c9
      obtain ⟨x5, ex5⟩ : ∃ y : Int32, y = v2 + (-1) := ⟨_, rfl⟩
      replace h := h x5 ex5
      refine gx_iinc X (v := x5) (lv' := [(2, .int x5), (0, .ref (ex_ad E v0)), (1, .ref (ex_ad E v1))]) dX10_isBelow_31 (j := 2) rfl (by rw [ex5]; rfl) (by decide) rfl ?_
      refine gx_goto X (tgt := 3) dX10_isBelow_34 (by decide) ?_
      exact gx_sub [1, 2, 0] rfl h
    · replace h := h.2 c9
      refine gx_aload_n X (j := 0) dX10_isBelow_16 rfl rfl ?_
      refine gx_iload_n X (j := 2) dX10_isBelow_17 rfl rfl ?_
      obtain ⟨k6, h⟩ := h
      refine gx_iald X k1 k6 dX10_isBelow_18 ?_
      refine gx_aload_n X (j := 1) dX10_isBelow_19 rfl rfl ?_
      refine gx_iload_n X (j := 2) dX10_isBelow_20 rfl rfl ?_
      obtain ⟨k7, h⟩ := h
      refine gx_iald X k3 k7 dX10_isBelow_21 ?_
      refine gx_icmp_ge X (tgt := 29) dX10_isBelow_22 (by decide) (fun c8 => ?_) (fun c8 => ?_)
      · replace h := h.1 c8
        refine gx_iconst X (v := 0) dX10_isBelow_29 (by decide) ?_
        exact gx_zret X hQ rfl h dX10_isBelow_30
      · replace h := h.2 c8
        refine gx_iconst X (v := 1) dX10_isBelow_25 (by decide) ?_
        refine gx_goto X (tgt := 30) dX10_isBelow_26 (by decide) ?_
        exact gx_zret X hQ rfl h dX10_isBelow_30
-- isBelow
theorem vA_cmp {a b : Nat → Int32} {k n : Nat} (hk : k < n) (ha : okD a n) (h : ∀ i, k < i → i < n → a i = b i) (hl : dv (a k) < dv (b k)) : vA a n < vA b n := by
  have h1 := vA_sl a (k + 1) (n - (k + 1))
  have h2 := vA_sl b (k + 1) (n - (k + 1))
  rw [show k + 1 + (n - (k + 1)) = n by omega] at h1 h2
  have h3 : vA (sl a (k + 1)) (n - (k + 1)) = vA (sl b (k + 1)) (n - (k + 1)) := sl_cg (fun j hj => h (k + 1 + j) (by omega) (by omega))
  rw [h1, h2, h3, vA_s, vA_s]
  have h4 := vA_lt k (a := a) (fun j hj => ha j (by omega))
  have h5 : dv (a k) * 65536 ^ k + 65536 ^ k ≤ dv (b k) * 65536 ^ k := by
    rw [← Nat.succ_mul]
    exact Nat.mul_le_mul_right _ hl
  omega
theorem dle {x y : Int32} (hx : dv x < 65536) (hy : dv y < 65536) : x ≤ y ↔ dv x ≤ dv y := by
  conv => lhs; rw [← nI_dv x, ← nI_dv y]
  exact nI_leI (by omega) (by omega)
theorem deq {x y : Int32} : x = y ↔ dv x = dv y := ⟨fun h => by rw [h], fun h => by rw [← nI_dv x, ← nI_dv y, h]⟩
def S_X10_isBelow (u : gx_S) (v0 v1 : Nat) (post : Int32 → gx_S → Prop) : Prop := gx_isR v0 .int ∧ gx_isR v1 .int ∧ gx_len v0 = 33 ∧ gx_len v1 = 33 ∧ okD (gx_a u v0) 33 ∧ okD (gx_a u v1) 33 ∧ post (b2 (decide (vA (gx_a u v0) 33 < vA (gx_a u v1) 33))) u
theorem nm1 {k : Nat} : nI k + (-1) = nI k - 1 := (Int32.sub_eq_add_neg _ _).symm
theorem w_X10_isBelow {E : gx_E} (X : gx_X E cX10_isBelow 3 RX10 (some .boolean)) (hd : 0 ≤ ex_d E) {post : Int32 → gx_S → Prop} (hQ : ex_Q E = va_Qi post (gx_B (ex_Z E)) (gx_A (ex_Z E))) {u : gx_S} {v0 v1 : Nat} (h : S_X10_isBelow u v0 v1 post) : gx_Wc E 3 0 [(0, .ref (ex_ad E v0)), (1, .ref (ex_ad E v1))] [] u := by
  obtain ⟨h0, h1, hl0, hl1, o0, o1, h⟩ := h
  have lp : ∀ k, k ≤ 33 → (∀ i, k ≤ i → i < 33 → gx_a u v0 i = gx_a u v1 i) → J_X10_isBelow_3 E v0 v1 (nI k - 1) u := by
    intro k
    induction k with
    | zero =>
      intro hk he
      refine w_X10_isBelow_3 X hd hQ ⟨fun _ => ?_, fun q => absurd (by decide) q⟩
      rw [vA_cg 33 (fun j hj => he j (by omega) hj), decide_eq_false (Nat.lt_irrefl _)] at h
      exact h
    | succ k ih =>
      intro hk he
      have d0 := o0 k (by omega)
      have d1 := o1 k (by omega)
      rw [nsub (a := k + 1) (b := 1) (by omega) (B := 1) rfl, Nat.add_sub_cancel]
      refine w_X10_isBelow_3 X hd hQ ⟨fun q => absurd q (nI_pos (by omega)), fun _ => ?_⟩
      rw [nI_clamp (by omega), dle d1 d0]
      refine ⟨h0, inL hl0 (by omega) (by omega), h1, inL hl1 (by omega) (by omega), fun q => ?_, fun q => ⟨inL hl0 (by omega) (by omega), inL hl1 (by omega) (by omega), fun q2 => ?_, fun q2 => ?_⟩⟩
      · rintro x rfl
        rw [nm1]
        refine ih (by omega) (fun i a b => ?_)
        by_cases e : i = k
        · rw [e]; exact q
        · exact he i (by omega) b
      · have hlt : dv (gx_a u v1 k) < dv (gx_a u v0 k) := by
          rw [deq] at q
          omega
        have := vA_cmp (by omega) o1 (fun i a b => (he i (by omega) b).symm) hlt
        rw [decide_eq_false (by omega)] at h
        exact h
      · have := vA_cmp (by omega) o0 (fun i a b => he i (by omega) b) (show dv (gx_a u v0 k) < dv (gx_a u v1 k) by omega)
        rw [decide_eq_true this] at h
        exact h
  exact w_X10_isBelow_0 X hd hQ (lp 33 (by omega) (fun i a b => by omega))
theorem c_X10_isBelow {l : Launch} {Z : gx_Z} {u : gx_S} {v0 : Nat} {v1 : Nat} {post : Int32 → gx_S → Prop} (h : S_X10_isBelow u v0 v1 post) : Met l yX10_isBelow (Cond.code yX10_isBelow cX10_isBelow 3 (some .boolean) :: gx_TB) (gx_rm 0) (gx_Pre Z u [.ref (Z.2.1 v0), .ref (Z.2.1 v1)]) (va_Qi post (gx_B Z) (gx_A Z)) 0 0 (gx_A Z) := by
  refine gx_met (by decide +kernel) (Nat.le_of_ble_eq_true rfl) ?_
  intro E X hZ hQ hD hL
  subst hZ
  exact w_X10_isBelow X (Nat.le_of_eq hD.symm) hQ h

-- java/lang/Math.multiplyHigh(JJ)J
theorem dJ9_multiplyHigh_f86c9_0 : decode cJ9_multiplyHigh_f86c9 0 = .ok (.lload_n 0, 1) := by decide +kernel
theorem dJ9_multiplyHigh_f86c9_1 : decode cJ9_multiplyHigh_f86c9 1 = .ok (.bipush 32, 2) := by decide +kernel
theorem dJ9_multiplyHigh_f86c9_3 : decode cJ9_multiplyHigh_f86c9 3 = .ok (.lshr, 1) := by decide +kernel
theorem dJ9_multiplyHigh_f86c9_4 : decode cJ9_multiplyHigh_f86c9 4 = .ok (.lstore 4, 2) := by decide +kernel
theorem dJ9_multiplyHigh_f86c9_6 : decode cJ9_multiplyHigh_f86c9 6 = .ok (.lload_n 0, 1) := by decide +kernel
theorem dJ9_multiplyHigh_f86c9_7 : decode cJ9_multiplyHigh_f86c9 7 = .ok (.ldc2_w 138, 3) := by decide +kernel
theorem dJ9_multiplyHigh_f86c9_10 : decode cJ9_multiplyHigh_f86c9 10 = .ok (.land, 1) := by decide +kernel
theorem dJ9_multiplyHigh_f86c9_11 : decode cJ9_multiplyHigh_f86c9 11 = .ok (.lstore 6, 2) := by decide +kernel
theorem dJ9_multiplyHigh_f86c9_13 : decode cJ9_multiplyHigh_f86c9 13 = .ok (.lload_n 2, 1) := by decide +kernel
theorem dJ9_multiplyHigh_f86c9_14 : decode cJ9_multiplyHigh_f86c9 14 = .ok (.bipush 32, 2) := by decide +kernel
theorem dJ9_multiplyHigh_f86c9_16 : decode cJ9_multiplyHigh_f86c9 16 = .ok (.lshr, 1) := by decide +kernel
theorem dJ9_multiplyHigh_f86c9_17 : decode cJ9_multiplyHigh_f86c9 17 = .ok (.lstore 8, 2) := by decide +kernel
theorem dJ9_multiplyHigh_f86c9_19 : decode cJ9_multiplyHigh_f86c9 19 = .ok (.lload_n 2, 1) := by decide +kernel
theorem dJ9_multiplyHigh_f86c9_20 : decode cJ9_multiplyHigh_f86c9 20 = .ok (.ldc2_w 138, 3) := by decide +kernel
theorem dJ9_multiplyHigh_f86c9_23 : decode cJ9_multiplyHigh_f86c9 23 = .ok (.land, 1) := by decide +kernel
theorem dJ9_multiplyHigh_f86c9_24 : decode cJ9_multiplyHigh_f86c9 24 = .ok (.lstore 10, 2) := by decide +kernel
theorem dJ9_multiplyHigh_f86c9_26 : decode cJ9_multiplyHigh_f86c9 26 = .ok (.lload 6, 2) := by decide +kernel
theorem dJ9_multiplyHigh_f86c9_28 : decode cJ9_multiplyHigh_f86c9 28 = .ok (.lload 10, 2) := by decide +kernel
theorem dJ9_multiplyHigh_f86c9_30 : decode cJ9_multiplyHigh_f86c9 30 = .ok (.lmul, 1) := by decide +kernel
theorem dJ9_multiplyHigh_f86c9_31 : decode cJ9_multiplyHigh_f86c9 31 = .ok (.lstore 12, 2) := by decide +kernel
theorem dJ9_multiplyHigh_f86c9_33 : decode cJ9_multiplyHigh_f86c9 33 = .ok (.lload 4, 2) := by decide +kernel
theorem dJ9_multiplyHigh_f86c9_35 : decode cJ9_multiplyHigh_f86c9 35 = .ok (.lload 10, 2) := by decide +kernel
theorem dJ9_multiplyHigh_f86c9_37 : decode cJ9_multiplyHigh_f86c9 37 = .ok (.lmul, 1) := by decide +kernel
theorem dJ9_multiplyHigh_f86c9_38 : decode cJ9_multiplyHigh_f86c9 38 = .ok (.lload 12, 2) := by decide +kernel
theorem dJ9_multiplyHigh_f86c9_40 : decode cJ9_multiplyHigh_f86c9 40 = .ok (.bipush 32, 2) := by decide +kernel
theorem dJ9_multiplyHigh_f86c9_42 : decode cJ9_multiplyHigh_f86c9 42 = .ok (.lushr, 1) := by decide +kernel
theorem dJ9_multiplyHigh_f86c9_43 : decode cJ9_multiplyHigh_f86c9 43 = .ok (.ladd, 1) := by decide +kernel
theorem dJ9_multiplyHigh_f86c9_44 : decode cJ9_multiplyHigh_f86c9 44 = .ok (.lstore 14, 2) := by decide +kernel
theorem dJ9_multiplyHigh_f86c9_46 : decode cJ9_multiplyHigh_f86c9 46 = .ok (.lload 14, 2) := by decide +kernel
theorem dJ9_multiplyHigh_f86c9_48 : decode cJ9_multiplyHigh_f86c9 48 = .ok (.ldc2_w 138, 3) := by decide +kernel
theorem dJ9_multiplyHigh_f86c9_51 : decode cJ9_multiplyHigh_f86c9 51 = .ok (.land, 1) := by decide +kernel
theorem dJ9_multiplyHigh_f86c9_52 : decode cJ9_multiplyHigh_f86c9 52 = .ok (.lstore 16, 2) := by decide +kernel
theorem dJ9_multiplyHigh_f86c9_54 : decode cJ9_multiplyHigh_f86c9 54 = .ok (.lload 14, 2) := by decide +kernel
theorem dJ9_multiplyHigh_f86c9_56 : decode cJ9_multiplyHigh_f86c9 56 = .ok (.bipush 32, 2) := by decide +kernel
theorem dJ9_multiplyHigh_f86c9_58 : decode cJ9_multiplyHigh_f86c9 58 = .ok (.lshr, 1) := by decide +kernel
theorem dJ9_multiplyHigh_f86c9_59 : decode cJ9_multiplyHigh_f86c9 59 = .ok (.lstore 18, 2) := by decide +kernel
theorem dJ9_multiplyHigh_f86c9_61 : decode cJ9_multiplyHigh_f86c9 61 = .ok (.lload 16, 2) := by decide +kernel
theorem dJ9_multiplyHigh_f86c9_63 : decode cJ9_multiplyHigh_f86c9 63 = .ok (.lload 6, 2) := by decide +kernel
theorem dJ9_multiplyHigh_f86c9_65 : decode cJ9_multiplyHigh_f86c9 65 = .ok (.lload 8, 2) := by decide +kernel
theorem dJ9_multiplyHigh_f86c9_67 : decode cJ9_multiplyHigh_f86c9 67 = .ok (.lmul, 1) := by decide +kernel
theorem dJ9_multiplyHigh_f86c9_68 : decode cJ9_multiplyHigh_f86c9 68 = .ok (.ladd, 1) := by decide +kernel
theorem dJ9_multiplyHigh_f86c9_69 : decode cJ9_multiplyHigh_f86c9 69 = .ok (.lstore 16, 2) := by decide +kernel
theorem dJ9_multiplyHigh_f86c9_71 : decode cJ9_multiplyHigh_f86c9 71 = .ok (.lload 4, 2) := by decide +kernel
theorem dJ9_multiplyHigh_f86c9_73 : decode cJ9_multiplyHigh_f86c9 73 = .ok (.lload 8, 2) := by decide +kernel
theorem dJ9_multiplyHigh_f86c9_75 : decode cJ9_multiplyHigh_f86c9 75 = .ok (.lmul, 1) := by decide +kernel
theorem dJ9_multiplyHigh_f86c9_76 : decode cJ9_multiplyHigh_f86c9 76 = .ok (.lload 18, 2) := by decide +kernel
theorem dJ9_multiplyHigh_f86c9_78 : decode cJ9_multiplyHigh_f86c9 78 = .ok (.ladd, 1) := by decide +kernel
theorem dJ9_multiplyHigh_f86c9_79 : decode cJ9_multiplyHigh_f86c9 79 = .ok (.lload 16, 2) := by decide +kernel
theorem dJ9_multiplyHigh_f86c9_81 : decode cJ9_multiplyHigh_f86c9 81 = .ok (.bipush 32, 2) := by decide +kernel
theorem dJ9_multiplyHigh_f86c9_83 : decode cJ9_multiplyHigh_f86c9 83 = .ok (.lshr, 1) := by decide +kernel
theorem dJ9_multiplyHigh_f86c9_84 : decode cJ9_multiplyHigh_f86c9 84 = .ok (.ladd, 1) := by decide +kernel
theorem dJ9_multiplyHigh_f86c9_85 : decode cJ9_multiplyHigh_f86c9 85 = .ok (.lreturn, 1) := by decide +kernel
theorem hyJ9_multiplyHigh_f86c9 : yJ9_multiplyHigh_f86c9.cls ≠ "java/lang/invoke/MethodHandle" ∧ yJ9_multiplyHigh_f86c9.cls ≠ "java/lang/invoke/VarHandle" ∧ (parseMethodDescriptor yJ9_multiplyHigh_f86c9.desc).map (fun d => d.parameters.length) = some 2 := by decide +kernel
def S_J9_multiplyHigh_f86c9 (u : gx_S) (v0 : Int64) (v2 : Int64) (post : Int64 → gx_S → Prop) : Prop := (∀ x1 : Int64, x1 = (v0 >>> ((32 : Int32).toInt64 &&& 63)) → (∀ x2 : Int64, x2 = (v0 &&& (4294967295 : Int64)) → (∀ x3 : Int64, x3 = (v2 >>> ((32 : Int32).toInt64 &&& 63)) → (∀ x4 : Int64, x4 = (v2 &&& (4294967295 : Int64)) → (∀ x5 : Int64, x5 = (x2 * x4) → (∀ x6 : Int64, x6 = ((x1 * x4) + ((x5.toUInt64 >>> ((32 : Int32).toInt64.toUInt64 &&& Int64.toUInt64 63)).toInt64)) → (∀ x7 : Int64, x7 = (x6 &&& (4294967295 : Int64)) → (∀ x8 : Int64, x8 = (x6 >>> ((32 : Int32).toInt64 &&& 63)) → (∀ x9 : Int64, x9 = (x7 + (x2 * x3)) → post (((x1 * x3) + x8) + (x9 >>> ((32 : Int32).toInt64 &&& 63))) u)))))))))
set_option maxHeartbeats 4000000 in
set_option maxRecDepth 100000 in
theorem w_J9_multiplyHigh_f86c9 {E : gx_E} (X : px_X E cJ9_multiplyHigh_f86c9 20 RJ9 (some .long)) (hd : 0 ≤ ex_d E) {post : Int64 → gx_S → Prop} (hQ : ex_Q E = va_Ql post (px_B (ex_Z E)) (px_A (ex_Z E))) {u : gx_S} {v0 : Int64} {v2 : Int64} (h : S_J9_multiplyHigh_f86c9 u v0 v2 post) : px_Wc E 20 0 [(0, .long v0), (2, .long v2)] [] u := by
  unfold S_J9_multiplyHigh_f86c9 at h
  refine px_lload_n X (j := 0) dJ9_multiplyHigh_f86c9_0 rfl rfl ?_
  refine px_bipush X (v := 32) dJ9_multiplyHigh_f86c9_1 (by decide) ?_
  refine px_lshr X (v := (v0 >>> ((32 : Int32).toInt64 &&& 63))) dJ9_multiplyHigh_f86c9_3 rfl ?_
  refine px_naml (fun x1 ex1 => ?_)
  replace h := h x1 ex1
  refine px_lstore X (lv' := [(4, .long x1), (0, .long v0), (2, .long v2)]) dJ9_multiplyHigh_f86c9_4 (by decide) rfl ?_
  refine px_lload_n X (j := 1) dJ9_multiplyHigh_f86c9_6 rfl rfl ?_
  refine px_ldc2 X (v := 4294967295) mw_497 dJ9_multiplyHigh_f86c9_7 ?_
  refine px_land X dJ9_multiplyHigh_f86c9_10 ?_
  refine px_naml (fun x2 ex2 => ?_)
  replace h := h x2 ex2
  refine px_lstore X (lv' := [(6, .long x2), (4, .long x1), (0, .long v0), (2, .long v2)]) dJ9_multiplyHigh_f86c9_11 (by decide) rfl ?_
  refine px_lload_n X (j := 3) dJ9_multiplyHigh_f86c9_13 rfl rfl ?_
  refine px_bipush X (v := 32) dJ9_multiplyHigh_f86c9_14 (by decide) ?_
  refine px_lshr X (v := (v2 >>> ((32 : Int32).toInt64 &&& 63))) dJ9_multiplyHigh_f86c9_16 rfl ?_
  refine px_naml (fun x3 ex3 => ?_)
  replace h := h x3 ex3
  refine px_lstore X (lv' := [(8, .long x3), (6, .long x2), (4, .long x1), (0, .long v0), (2, .long v2)]) dJ9_multiplyHigh_f86c9_17 (by decide) rfl ?_
  refine px_lload_n X (j := 4) dJ9_multiplyHigh_f86c9_19 rfl rfl ?_
  refine px_ldc2 X (v := 4294967295) mw_497 dJ9_multiplyHigh_f86c9_20 ?_
  refine px_land X dJ9_multiplyHigh_f86c9_23 ?_
  refine px_naml (fun x4 ex4 => ?_)
  replace h := h x4 ex4
  refine px_lstore X (lv' := [(10, .long x4), (8, .long x3), (6, .long x2), (4, .long x1), (0, .long v0), (2, .long v2)]) dJ9_multiplyHigh_f86c9_24 (by decide) rfl ?_
  refine px_lload X (j := 2) dJ9_multiplyHigh_f86c9_26 rfl ?_
  refine px_lload X (j := 0) dJ9_multiplyHigh_f86c9_28 rfl ?_
  refine px_lmul X dJ9_multiplyHigh_f86c9_30 ?_
  refine px_naml (fun x5 ex5 => ?_)
  replace h := h x5 ex5
  refine px_lstore X (lv' := [(12, .long x5), (10, .long x4), (8, .long x3), (6, .long x2), (4, .long x1), (0, .long v0), (2, .long v2)]) dJ9_multiplyHigh_f86c9_31 (by decide) rfl ?_
  refine px_lload X (j := 4) dJ9_multiplyHigh_f86c9_33 rfl ?_
  refine px_lload X (j := 1) dJ9_multiplyHigh_f86c9_35 rfl ?_
  refine px_lmul X dJ9_multiplyHigh_f86c9_37 ?_
  refine px_lload X (j := 0) dJ9_multiplyHigh_f86c9_38 rfl ?_
  refine px_bipush X (v := 32) dJ9_multiplyHigh_f86c9_40 (by decide) ?_
  refine px_lushr X (v := (x5.toUInt64 >>> ((32 : Int32).toInt64.toUInt64 &&& Int64.toUInt64 63)).toInt64) dJ9_multiplyHigh_f86c9_42 rfl ?_
  refine px_ladd X dJ9_multiplyHigh_f86c9_43 ?_
  refine px_naml (fun x6 ex6 => ?_)
  replace h := h x6 ex6
  refine px_lstore X (lv' := [(14, .long x6), (12, .long x5), (10, .long x4), (8, .long x3), (6, .long x2), (4, .long x1), (0, .long v0), (2, .long v2)]) dJ9_multiplyHigh_f86c9_44 (by decide) rfl ?_
  refine px_lload X (j := 0) dJ9_multiplyHigh_f86c9_46 rfl ?_
  refine px_ldc2 X (v := 4294967295) mw_497 dJ9_multiplyHigh_f86c9_48 ?_
  refine px_land X dJ9_multiplyHigh_f86c9_51 ?_
  refine px_naml (fun x7 ex7 => ?_)
  replace h := h x7 ex7
  refine px_lstore X (lv' := [(16, .long x7), (14, .long x6), (12, .long x5), (10, .long x4), (8, .long x3), (6, .long x2), (4, .long x1), (0, .long v0), (2, .long v2)]) dJ9_multiplyHigh_f86c9_52 (by decide) rfl ?_
  refine px_lload X (j := 1) dJ9_multiplyHigh_f86c9_54 rfl ?_
  refine px_bipush X (v := 32) dJ9_multiplyHigh_f86c9_56 (by decide) ?_
  refine px_lshr X (v := (x6 >>> ((32 : Int32).toInt64 &&& 63))) dJ9_multiplyHigh_f86c9_58 rfl ?_
  refine px_naml (fun x8 ex8 => ?_)
  replace h := h x8 ex8
  refine px_lstore X (lv' := [(18, .long x8), (16, .long x7), (14, .long x6), (12, .long x5), (10, .long x4), (8, .long x3), (6, .long x2), (4, .long x1), (0, .long v0), (2, .long v2)]) dJ9_multiplyHigh_f86c9_59 (by decide) rfl ?_
  refine px_lload X (j := 1) dJ9_multiplyHigh_f86c9_61 rfl ?_
  refine px_lload X (j := 6) dJ9_multiplyHigh_f86c9_63 rfl ?_
  refine px_lload X (j := 5) dJ9_multiplyHigh_f86c9_65 rfl ?_
  refine px_lmul X dJ9_multiplyHigh_f86c9_67 ?_
  refine px_ladd X dJ9_multiplyHigh_f86c9_68 ?_
  refine px_naml (fun x9 ex9 => ?_)
  replace h := h x9 ex9
  refine px_lstore X (lv' := [(16, .long x9), (18, .long x8), (14, .long x6), (12, .long x5), (10, .long x4), (8, .long x3), (6, .long x2), (4, .long x1), (0, .long v0), (2, .long v2)]) dJ9_multiplyHigh_f86c9_69 (by decide) rfl ?_
  refine px_lload X (j := 7) dJ9_multiplyHigh_f86c9_71 rfl ?_
  refine px_lload X (j := 5) dJ9_multiplyHigh_f86c9_73 rfl ?_
  refine px_lmul X dJ9_multiplyHigh_f86c9_75 ?_
  refine px_lload X (j := 1) dJ9_multiplyHigh_f86c9_76 rfl ?_
  refine px_ladd X dJ9_multiplyHigh_f86c9_78 ?_
  refine px_lload X (j := 0) dJ9_multiplyHigh_f86c9_79 rfl ?_
  refine px_bipush X (v := 32) dJ9_multiplyHigh_f86c9_81 (by decide) ?_
  refine px_lshr X (v := (x9 >>> ((32 : Int32).toInt64 &&& 63))) dJ9_multiplyHigh_f86c9_83 rfl ?_
  refine px_ladd X dJ9_multiplyHigh_f86c9_84 ?_
  exact px_lret X hQ h dJ9_multiplyHigh_f86c9_85
theorem c_J9_multiplyHigh_f86c9 {l : Launch} {Z : gx_Z} {u : gx_S} {v0 : Int64} {v2 : Int64} {post : Int64 → gx_S → Prop} (h : S_J9_multiplyHigh_f86c9 u v0 v2 post) : Met l yJ9_multiplyHigh_f86c9 (Cond.code yJ9_multiplyHigh_f86c9 cJ9_multiplyHigh_f86c9 20 (some .long) :: gx_TB) (gx_rm 0) (px_Pre Z u [.long v0, .long v2]) (va_Ql post (px_B Z) (px_A Z)) 0 0 (px_A Z) := by
  refine px_met (by decide +kernel) (Nat.le_of_ble_eq_true rfl) ?_
  intro E X hZ hQ hD hL
  subst hZ
  exact w_J9_multiplyHigh_f86c9 X (Nat.le_of_eq hD.symm) hQ h
-- PlainSealModel$Hash.isAtMost(JII)Z
theorem dX7_isAtMost_0 : decode cX7_isAtMost 0 = .ok (.lload_n 0, 1) := by decide +kernel
theorem dX7_isAtMost_1 : decode cX7_isAtMost 1 = .ok (.lload_n 0, 1) := by decide +kernel
theorem dX7_isAtMost_2 : decode cX7_isAtMost 2 = .ok (.invokestatic 40, 3) := by decide +kernel
theorem dX7_isAtMost_5 : decode cX7_isAtMost 5 = .ok (.lstore 4, 2) := by decide +kernel
theorem dX7_isAtMost_7 : decode cX7_isAtMost 7 = .ok (.lload_n 0, 1) := by decide +kernel
theorem dX7_isAtMost_8 : decode cX7_isAtMost 8 = .ok (.lload_n 0, 1) := by decide +kernel
theorem dX7_isAtMost_9 : decode cX7_isAtMost 9 = .ok (.lmul, 1) := by decide +kernel
theorem dX7_isAtMost_10 : decode cX7_isAtMost 10 = .ok (.lstore 6, 2) := by decide +kernel
theorem dX7_isAtMost_12 : decode cX7_isAtMost 12 = .ok (.iload_n 2, 1) := by decide +kernel
theorem dX7_isAtMost_13 : decode cX7_isAtMost 13 = .ok (.iconst 2, 1) := by decide +kernel
theorem dX7_isAtMost_14 : decode cX7_isAtMost 14 = .ok (.if_icmp .ne 32, 3) := by decide +kernel
theorem dX7_isAtMost_17 : decode cX7_isAtMost 17 = .ok (.lload 4, 2) := by decide +kernel
theorem dX7_isAtMost_19 : decode cX7_isAtMost 19 = .ok (.iload_n 3, 1) := by decide +kernel
theorem dX7_isAtMost_20 : decode cX7_isAtMost 20 = .ok (.i2l, 1) := by decide +kernel
theorem dX7_isAtMost_21 : decode cX7_isAtMost 21 = .ok (.lcmp, 1) := by decide +kernel
theorem dX7_isAtMost_22 : decode cX7_isAtMost 22 = .ok (.ifCond .lt 18, 3) := by decide +kernel
theorem dX7_isAtMost_25 : decode cX7_isAtMost 25 = .ok (.lload 4, 2) := by decide +kernel
theorem dX7_isAtMost_27 : decode cX7_isAtMost 27 = .ok (.iload_n 3, 1) := by decide +kernel
theorem dX7_isAtMost_28 : decode cX7_isAtMost 28 = .ok (.i2l, 1) := by decide +kernel
theorem dX7_isAtMost_29 : decode cX7_isAtMost 29 = .ok (.lcmp, 1) := by decide +kernel
theorem dX7_isAtMost_30 : decode cX7_isAtMost 30 = .ok (.ifCond .ne 14, 3) := by decide +kernel
theorem dX7_isAtMost_33 : decode cX7_isAtMost 33 = .ok (.lload 6, 2) := by decide +kernel
theorem dX7_isAtMost_35 : decode cX7_isAtMost 35 = .ok (.lconst 0, 1) := by decide +kernel
theorem dX7_isAtMost_36 : decode cX7_isAtMost 36 = .ok (.lcmp, 1) := by decide +kernel
theorem dX7_isAtMost_37 : decode cX7_isAtMost 37 = .ok (.ifCond .ne 7, 3) := by decide +kernel
theorem dX7_isAtMost_40 : decode cX7_isAtMost 40 = .ok (.iconst 1, 1) := by decide +kernel
theorem dX7_isAtMost_41 : decode cX7_isAtMost 41 = .ok (.goto 4, 3) := by decide +kernel
theorem dX7_isAtMost_44 : decode cX7_isAtMost 44 = .ok (.iconst 0, 1) := by decide +kernel
theorem dX7_isAtMost_45 : decode cX7_isAtMost 45 = .ok (.ireturn, 1) := by decide +kernel
theorem dX7_isAtMost_46 : decode cX7_isAtMost 46 = .ok (.lload 6, 2) := by decide +kernel
theorem dX7_isAtMost_48 : decode cX7_isAtMost 48 = .ok (.ldc2_w 46, 3) := by decide +kernel
theorem dX7_isAtMost_51 : decode cX7_isAtMost 51 = .ok (.land, 1) := by decide +kernel
theorem dX7_isAtMost_52 : decode cX7_isAtMost 52 = .ok (.lstore 8, 2) := by decide +kernel
theorem dX7_isAtMost_54 : decode cX7_isAtMost 54 = .ok (.lload 6, 2) := by decide +kernel
theorem dX7_isAtMost_56 : decode cX7_isAtMost 56 = .ok (.bipush 32, 2) := by decide +kernel
theorem dX7_isAtMost_58 : decode cX7_isAtMost 58 = .ok (.lushr, 1) := by decide +kernel
theorem dX7_isAtMost_59 : decode cX7_isAtMost 59 = .ok (.lstore 10, 2) := by decide +kernel
theorem dX7_isAtMost_61 : decode cX7_isAtMost 61 = .ok (.lload 4, 2) := by decide +kernel
theorem dX7_isAtMost_63 : decode cX7_isAtMost 63 = .ok (.lstore 12, 2) := by decide +kernel
theorem dX7_isAtMost_65 : decode cX7_isAtMost 65 = .ok (.lload 8, 2) := by decide +kernel
theorem dX7_isAtMost_67 : decode cX7_isAtMost 67 = .ok (.lload_n 0, 1) := by decide +kernel
theorem dX7_isAtMost_68 : decode cX7_isAtMost 68 = .ok (.ldc2_w 46, 3) := by decide +kernel
theorem dX7_isAtMost_71 : decode cX7_isAtMost 71 = .ok (.land, 1) := by decide +kernel
theorem dX7_isAtMost_72 : decode cX7_isAtMost 72 = .ok (.lmul, 1) := by decide +kernel
theorem dX7_isAtMost_73 : decode cX7_isAtMost 73 = .ok (.lstore 14, 2) := by decide +kernel
theorem dX7_isAtMost_75 : decode cX7_isAtMost 75 = .ok (.lload 14, 2) := by decide +kernel
theorem dX7_isAtMost_77 : decode cX7_isAtMost 77 = .ok (.bipush 32, 2) := by decide +kernel
theorem dX7_isAtMost_79 : decode cX7_isAtMost 79 = .ok (.lushr, 1) := by decide +kernel
theorem dX7_isAtMost_80 : decode cX7_isAtMost 80 = .ok (.lstore 16, 2) := by decide +kernel
theorem dX7_isAtMost_82 : decode cX7_isAtMost 82 = .ok (.lload 10, 2) := by decide +kernel
theorem dX7_isAtMost_84 : decode cX7_isAtMost 84 = .ok (.lload_n 0, 1) := by decide +kernel
theorem dX7_isAtMost_85 : decode cX7_isAtMost 85 = .ok (.ldc2_w 46, 3) := by decide +kernel
theorem dX7_isAtMost_88 : decode cX7_isAtMost 88 = .ok (.land, 1) := by decide +kernel
theorem dX7_isAtMost_89 : decode cX7_isAtMost 89 = .ok (.lmul, 1) := by decide +kernel
theorem dX7_isAtMost_90 : decode cX7_isAtMost 90 = .ok (.lload 16, 2) := by decide +kernel
theorem dX7_isAtMost_92 : decode cX7_isAtMost 92 = .ok (.ladd, 1) := by decide +kernel
theorem dX7_isAtMost_93 : decode cX7_isAtMost 93 = .ok (.lstore 18, 2) := by decide +kernel
theorem dX7_isAtMost_95 : decode cX7_isAtMost 95 = .ok (.lload 8, 2) := by decide +kernel
theorem dX7_isAtMost_97 : decode cX7_isAtMost 97 = .ok (.lload_n 0, 1) := by decide +kernel
theorem dX7_isAtMost_98 : decode cX7_isAtMost 98 = .ok (.bipush 32, 2) := by decide +kernel
theorem dX7_isAtMost_100 : decode cX7_isAtMost 100 = .ok (.lushr, 1) := by decide +kernel
theorem dX7_isAtMost_101 : decode cX7_isAtMost 101 = .ok (.lmul, 1) := by decide +kernel
theorem dX7_isAtMost_102 : decode cX7_isAtMost 102 = .ok (.lload 18, 2) := by decide +kernel
theorem dX7_isAtMost_104 : decode cX7_isAtMost 104 = .ok (.ldc2_w 46, 3) := by decide +kernel
theorem dX7_isAtMost_107 : decode cX7_isAtMost 107 = .ok (.land, 1) := by decide +kernel
theorem dX7_isAtMost_108 : decode cX7_isAtMost 108 = .ok (.ladd, 1) := by decide +kernel
theorem dX7_isAtMost_109 : decode cX7_isAtMost 109 = .ok (.lstore 20, 2) := by decide +kernel
theorem dX7_isAtMost_111 : decode cX7_isAtMost 111 = .ok (.lload 20, 2) := by decide +kernel
theorem dX7_isAtMost_113 : decode cX7_isAtMost 113 = .ok (.ldc2_w 46, 3) := by decide +kernel
theorem dX7_isAtMost_116 : decode cX7_isAtMost 116 = .ok (.land, 1) := by decide +kernel
theorem dX7_isAtMost_117 : decode cX7_isAtMost 117 = .ok (.lstore 22, 2) := by decide +kernel
theorem dX7_isAtMost_119 : decode cX7_isAtMost 119 = .ok (.lload 14, 2) := by decide +kernel
theorem dX7_isAtMost_121 : decode cX7_isAtMost 121 = .ok (.ldc2_w 46, 3) := by decide +kernel
theorem dX7_isAtMost_124 : decode cX7_isAtMost 124 = .ok (.land, 1) := by decide +kernel
theorem dX7_isAtMost_125 : decode cX7_isAtMost 125 = .ok (.lstore 24, 2) := by decide +kernel
theorem dX7_isAtMost_127 : decode cX7_isAtMost 127 = .ok (.lload 18, 2) := by decide +kernel
theorem dX7_isAtMost_129 : decode cX7_isAtMost 129 = .ok (.bipush 32, 2) := by decide +kernel
theorem dX7_isAtMost_131 : decode cX7_isAtMost 131 = .ok (.lushr, 1) := by decide +kernel
theorem dX7_isAtMost_132 : decode cX7_isAtMost 132 = .ok (.lload 20, 2) := by decide +kernel
theorem dX7_isAtMost_134 : decode cX7_isAtMost 134 = .ok (.bipush 32, 2) := by decide +kernel
theorem dX7_isAtMost_136 : decode cX7_isAtMost 136 = .ok (.lushr, 1) := by decide +kernel
theorem dX7_isAtMost_137 : decode cX7_isAtMost 137 = .ok (.ladd, 1) := by decide +kernel
theorem dX7_isAtMost_138 : decode cX7_isAtMost 138 = .ok (.lload 10, 2) := by decide +kernel
theorem dX7_isAtMost_140 : decode cX7_isAtMost 140 = .ok (.lload_n 0, 1) := by decide +kernel
theorem dX7_isAtMost_141 : decode cX7_isAtMost 141 = .ok (.bipush 32, 2) := by decide +kernel
theorem dX7_isAtMost_143 : decode cX7_isAtMost 143 = .ok (.lushr, 1) := by decide +kernel
theorem dX7_isAtMost_144 : decode cX7_isAtMost 144 = .ok (.lmul, 1) := by decide +kernel
theorem dX7_isAtMost_145 : decode cX7_isAtMost 145 = .ok (.ladd, 1) := by decide +kernel
theorem dX7_isAtMost_146 : decode cX7_isAtMost 146 = .ok (.lload 12, 2) := by decide +kernel
theorem dX7_isAtMost_148 : decode cX7_isAtMost 148 = .ok (.lload_n 0, 1) := by decide +kernel
theorem dX7_isAtMost_149 : decode cX7_isAtMost 149 = .ok (.ldc2_w 46, 3) := by decide +kernel
theorem dX7_isAtMost_152 : decode cX7_isAtMost 152 = .ok (.land, 1) := by decide +kernel
theorem dX7_isAtMost_153 : decode cX7_isAtMost 153 = .ok (.lmul, 1) := by decide +kernel
theorem dX7_isAtMost_154 : decode cX7_isAtMost 154 = .ok (.ladd, 1) := by decide +kernel
theorem dX7_isAtMost_155 : decode cX7_isAtMost 155 = .ok (.lload 12, 2) := by decide +kernel
theorem dX7_isAtMost_157 : decode cX7_isAtMost 157 = .ok (.lload_n 0, 1) := by decide +kernel
theorem dX7_isAtMost_158 : decode cX7_isAtMost 158 = .ok (.bipush 32, 2) := by decide +kernel
theorem dX7_isAtMost_160 : decode cX7_isAtMost 160 = .ok (.lushr, 1) := by decide +kernel
theorem dX7_isAtMost_161 : decode cX7_isAtMost 161 = .ok (.lmul, 1) := by decide +kernel
theorem dX7_isAtMost_162 : decode cX7_isAtMost 162 = .ok (.bipush 32, 2) := by decide +kernel
theorem dX7_isAtMost_164 : decode cX7_isAtMost 164 = .ok (.lshl, 1) := by decide +kernel
theorem dX7_isAtMost_165 : decode cX7_isAtMost 165 = .ok (.ladd, 1) := by decide +kernel
theorem dX7_isAtMost_166 : decode cX7_isAtMost 166 = .ok (.lstore 26, 2) := by decide +kernel
theorem dX7_isAtMost_168 : decode cX7_isAtMost 168 = .ok (.lload 26, 2) := by decide +kernel
theorem dX7_isAtMost_170 : decode cX7_isAtMost 170 = .ok (.iload_n 3, 1) := by decide +kernel
theorem dX7_isAtMost_171 : decode cX7_isAtMost 171 = .ok (.i2l, 1) := by decide +kernel
theorem dX7_isAtMost_172 : decode cX7_isAtMost 172 = .ok (.bipush 32, 2) := by decide +kernel
theorem dX7_isAtMost_174 : decode cX7_isAtMost 174 = .ok (.lshl, 1) := by decide +kernel
theorem dX7_isAtMost_175 : decode cX7_isAtMost 175 = .ok (.lcmp, 1) := by decide +kernel
theorem dX7_isAtMost_176 : decode cX7_isAtMost 176 = .ok (.ifCond .lt 28, 3) := by decide +kernel
theorem dX7_isAtMost_179 : decode cX7_isAtMost 179 = .ok (.lload 26, 2) := by decide +kernel
theorem dX7_isAtMost_181 : decode cX7_isAtMost 181 = .ok (.iload_n 3, 1) := by decide +kernel
theorem dX7_isAtMost_182 : decode cX7_isAtMost 182 = .ok (.i2l, 1) := by decide +kernel
theorem dX7_isAtMost_183 : decode cX7_isAtMost 183 = .ok (.bipush 32, 2) := by decide +kernel
theorem dX7_isAtMost_185 : decode cX7_isAtMost 185 = .ok (.lshl, 1) := by decide +kernel
theorem dX7_isAtMost_186 : decode cX7_isAtMost 186 = .ok (.lcmp, 1) := by decide +kernel
theorem dX7_isAtMost_187 : decode cX7_isAtMost 187 = .ok (.ifCond .ne 21, 3) := by decide +kernel
theorem dX7_isAtMost_190 : decode cX7_isAtMost 190 = .ok (.lload 22, 2) := by decide +kernel
theorem dX7_isAtMost_192 : decode cX7_isAtMost 192 = .ok (.lconst 0, 1) := by decide +kernel
theorem dX7_isAtMost_193 : decode cX7_isAtMost 193 = .ok (.lcmp, 1) := by decide +kernel
theorem dX7_isAtMost_194 : decode cX7_isAtMost 194 = .ok (.ifCond .ne 14, 3) := by decide +kernel
theorem dX7_isAtMost_197 : decode cX7_isAtMost 197 = .ok (.lload 24, 2) := by decide +kernel
theorem dX7_isAtMost_199 : decode cX7_isAtMost 199 = .ok (.lconst 0, 1) := by decide +kernel
theorem dX7_isAtMost_200 : decode cX7_isAtMost 200 = .ok (.lcmp, 1) := by decide +kernel
theorem dX7_isAtMost_201 : decode cX7_isAtMost 201 = .ok (.ifCond .ne 7, 3) := by decide +kernel
theorem dX7_isAtMost_204 : decode cX7_isAtMost 204 = .ok (.iconst 1, 1) := by decide +kernel
theorem dX7_isAtMost_205 : decode cX7_isAtMost 205 = .ok (.goto 4, 3) := by decide +kernel
theorem dX7_isAtMost_208 : decode cX7_isAtMost 208 = .ok (.iconst 0, 1) := by decide +kernel
theorem dX7_isAtMost_209 : decode cX7_isAtMost 209 = .ok (.ireturn, 1) := by decide +kernel
theorem hyX7_isAtMost : yX7_isAtMost.cls ≠ "java/lang/invoke/MethodHandle" ∧ yX7_isAtMost.cls ≠ "java/lang/invoke/VarHandle" ∧ (parseMethodDescriptor yX7_isAtMost.desc).map (fun d => d.parameters.length) = some 3 := by decide +kernel
def S_X7_isAtMost (u : gx_S) (v0 : Int64) (v2 : Int32) (v3 : Int32) (post : Int32 → gx_S → Prop) : Prop := (S_J9_multiplyHigh_f86c9 u v0 v0 (fun (r2 : Int64) (u1 : gx_S) => (∀ x3 : Int64, x3 = (v0 * v0) → ((¬ v2 = (2 : Int32) → (∀ x4 : Int64, x4 = (x3 &&& (4294967295 : Int64)) → (∀ x5 : Int64, x5 = ((x3.toUInt64 >>> ((32 : Int32).toInt64.toUInt64 &&& Int64.toUInt64 63)).toInt64) → (∀ x6 : Int64, x6 = (x4 * (v0 &&& (4294967295 : Int64))) → (∀ x7 : Int64, x7 = ((x6.toUInt64 >>> ((32 : Int32).toInt64.toUInt64 &&& Int64.toUInt64 63)).toInt64) → (∀ x8 : Int64, x8 = ((x5 * (v0 &&& (4294967295 : Int64))) + x7) → (∀ x9 : Int64, x9 = ((x4 * ((v0.toUInt64 >>> ((32 : Int32).toInt64.toUInt64 &&& Int64.toUInt64 63)).toInt64)) + (x8 &&& (4294967295 : Int64))) → (∀ x10 : Int64, x10 = (x9 &&& (4294967295 : Int64)) → (∀ x11 : Int64, x11 = (x6 &&& (4294967295 : Int64)) → (∀ x12 : Int64, x12 = ((((((x8.toUInt64 >>> ((32 : Int32).toInt64.toUInt64 &&& Int64.toUInt64 63)).toInt64) + ((x9.toUInt64 >>> ((32 : Int32).toInt64.toUInt64 &&& Int64.toUInt64 63)).toInt64)) + (x5 * ((v0.toUInt64 >>> ((32 : Int32).toInt64.toUInt64 &&& Int64.toUInt64 63)).toInt64))) + (r2 * (v0 &&& (4294967295 : Int64)))) + ((r2 * ((v0.toUInt64 >>> ((32 : Int32).toInt64.toUInt64 &&& Int64.toUInt64 63)).toInt64)) <<< ((32 : Int32).toInt64 &&& 63))) → (((lg_cmp x12 ((v3).toInt64 <<< ((32 : Int32).toInt64 &&& 63))) < 0 → post (1 : Int32) u1) ∧ (¬ (lg_cmp x12 ((v3).toInt64 <<< ((32 : Int32).toInt64 &&& 63))) < 0 → ((¬ (lg_cmp x12 ((v3).toInt64 <<< ((32 : Int32).toInt64 &&& 63))) = 0 → post (0 : Int32) u1) ∧ ((lg_cmp x12 ((v3).toInt64 <<< ((32 : Int32).toInt64 &&& 63))) = 0 → ((¬ (lg_cmp x10 (0 : Int64)) = 0 → post (0 : Int32) u1) ∧ ((lg_cmp x10 (0 : Int64)) = 0 → ((¬ (lg_cmp x11 (0 : Int64)) = 0 → post (0 : Int32) u1) ∧ ((lg_cmp x11 (0 : Int64)) = 0 → post (1 : Int32) u1)))))))))))))))))) ∧ (v2 = (2 : Int32) → (((lg_cmp r2 (v3).toInt64) < 0 → post (1 : Int32) u1) ∧ (¬ (lg_cmp r2 (v3).toInt64) < 0 → ((¬ (lg_cmp r2 (v3).toInt64) = 0 → post (0 : Int32) u1) ∧ ((lg_cmp r2 (v3).toInt64) = 0 → ((¬ (lg_cmp x3 (0 : Int64)) = 0 → post (0 : Int32) u1) ∧ ((lg_cmp x3 (0 : Int64)) = 0 → post (1 : Int32) u1)))))))))))
set_option maxHeartbeats 4000000 in
set_option maxRecDepth 100000 in
theorem w_X7_isAtMost {E : gx_E} (X : px_X E cX7_isAtMost 28 RX7 (some .boolean)) (hd : 1 ≤ ex_d E) {post : Int32 → gx_S → Prop} (hQ : ex_Q E = va_Qi post (px_B (ex_Z E)) (px_A (ex_Z E))) {u : gx_S} {v0 : Int64} {v2 : Int32} {v3 : Int32} (h : S_X7_isAtMost u v0 v2 v3 post) : px_Wc E 28 0 [(0, .long v0), (2, .int v2), (3, .int v3)] [] u := by
  unfold S_X7_isAtMost at h
  refine px_lload_n X (j := 0) dX7_isAtMost_0 rfl rfl ?_
  refine px_lload_n X (j := 0) dX7_isAtMost_1 rfl rfl ?_
  refine px_kl (px_rS X (c_J9_multiplyHigh_f86c9 h) (Nat.le_trans (by decide) hd) (Nat.le_trans (by decide) (Nat.mul_le_mul_left 40 hd)) mw_494 mw_495 mw_11 mw_496 hyJ9_multiplyHigh_f86c9 (As := [.long v0, .long v0]) (rest := []) rfl rfl (Nat.le_of_ble_eq_true rfl) dX7_isAtMost_2) (fun r2 u1 h => ?_)
  refine px_lstore X (lv' := [(4, .long r2), (0, .long v0), (2, .int v2), (3, .int v3)]) dX7_isAtMost_5 (by decide) rfl ?_
  refine px_lload_n X (j := 1) dX7_isAtMost_7 rfl rfl ?_
  refine px_lload_n X (j := 1) dX7_isAtMost_8 rfl rfl ?_
  refine px_lmul X dX7_isAtMost_9 ?_
  refine px_naml (fun x3 ex3 => ?_)
  replace h := h x3 ex3
  refine px_lstore X (lv' := [(6, .long x3), (4, .long r2), (0, .long v0), (2, .int v2), (3, .int v3)]) dX7_isAtMost_10 (by decide) rfl ?_
  refine px_iload_n X (j := 3) dX7_isAtMost_12 rfl rfl ?_
  refine px_iconst X (v := 2) dX7_isAtMost_13 (by decide) ?_
  refine px_icmp_ne X (tgt := 46) dX7_isAtMost_14 (by decide) (fun c20 => ?_) (fun c20 => ?_)
  · replace h := h.1 c20
    refine px_lload X (j := 0) dX7_isAtMost_46 rfl ?_
    refine px_ldc2 X (v := 4294967295) mw_498 dX7_isAtMost_48 ?_
    refine px_land X dX7_isAtMost_51 ?_
    refine px_naml (fun x4 ex4 => ?_)
    replace h := h x4 ex4
    refine px_lstore X (lv' := [(8, .long x4), (6, .long x3), (4, .long r2), (0, .long v0), (2, .int v2), (3, .int v3)]) dX7_isAtMost_52 (by decide) rfl ?_
    refine px_lload X (j := 1) dX7_isAtMost_54 rfl ?_
    refine px_bipush X (v := 32) dX7_isAtMost_56 (by decide) ?_
    refine px_lushr X (v := (x3.toUInt64 >>> ((32 : Int32).toInt64.toUInt64 &&& Int64.toUInt64 63)).toInt64) dX7_isAtMost_58 rfl ?_
    refine px_naml (fun x5 ex5 => ?_)
    replace h := h x5 ex5
    refine px_lstore X (lv' := [(10, .long x5), (8, .long x4), (6, .long x3), (4, .long r2), (0, .long v0), (2, .int v2), (3, .int v3)]) dX7_isAtMost_59 (by decide) rfl ?_
    refine px_lload X (j := 3) dX7_isAtMost_61 rfl ?_
    refine px_lstore X (lv' := [(12, .long r2), (10, .long x5), (8, .long x4), (6, .long x3), (4, .long r2), (0, .long v0), (2, .int v2), (3, .int v3)]) dX7_isAtMost_63 (by decide) rfl ?_
    refine px_lload X (j := 2) dX7_isAtMost_65 rfl ?_
    refine px_lload_n X (j := 5) dX7_isAtMost_67 rfl rfl ?_
    refine px_ldc2 X (v := 4294967295) mw_498 dX7_isAtMost_68 ?_
    refine px_land X dX7_isAtMost_71 ?_
    refine px_lmul X dX7_isAtMost_72 ?_
    refine px_naml (fun x6 ex6 => ?_)
    replace h := h x6 ex6
    refine px_lstore X (lv' := [(14, .long x6), (12, .long r2), (10, .long x5), (8, .long x4), (6, .long x3), (4, .long r2), (0, .long v0), (2, .int v2), (3, .int v3)]) dX7_isAtMost_73 (by decide) rfl ?_
    refine px_lload X (j := 0) dX7_isAtMost_75 rfl ?_
    refine px_bipush X (v := 32) dX7_isAtMost_77 (by decide) ?_
    refine px_lushr X (v := (x6.toUInt64 >>> ((32 : Int32).toInt64.toUInt64 &&& Int64.toUInt64 63)).toInt64) dX7_isAtMost_79 rfl ?_
    refine px_naml (fun x7 ex7 => ?_)
    replace h := h x7 ex7
    refine px_lstore X (lv' := [(16, .long x7), (14, .long x6), (12, .long r2), (10, .long x5), (8, .long x4), (6, .long x3), (4, .long r2), (0, .long v0), (2, .int v2), (3, .int v3)]) dX7_isAtMost_80 (by decide) rfl ?_
    refine px_lload X (j := 3) dX7_isAtMost_82 rfl ?_
    refine px_lload_n X (j := 7) dX7_isAtMost_84 rfl rfl ?_
    refine px_ldc2 X (v := 4294967295) mw_498 dX7_isAtMost_85 ?_
    refine px_land X dX7_isAtMost_88 ?_
    refine px_lmul X dX7_isAtMost_89 ?_
    refine px_lload X (j := 0) dX7_isAtMost_90 rfl ?_
    refine px_ladd X dX7_isAtMost_92 ?_
    refine px_naml (fun x8 ex8 => ?_)
    replace h := h x8 ex8
    refine px_lstore X (lv' := [(18, .long x8), (16, .long x7), (14, .long x6), (12, .long r2), (10, .long x5), (8, .long x4), (6, .long x3), (4, .long r2), (0, .long v0), (2, .int v2), (3, .int v3)]) dX7_isAtMost_93 (by decide) rfl ?_
    refine px_lload X (j := 5) dX7_isAtMost_95 rfl ?_
    refine px_lload_n X (j := 8) dX7_isAtMost_97 rfl rfl ?_
    refine px_bipush X (v := 32) dX7_isAtMost_98 (by decide) ?_
    refine px_lushr X (v := (v0.toUInt64 >>> ((32 : Int32).toInt64.toUInt64 &&& Int64.toUInt64 63)).toInt64) dX7_isAtMost_100 rfl ?_
    refine px_lmul X dX7_isAtMost_101 ?_
    refine px_lload X (j := 0) dX7_isAtMost_102 rfl ?_
    refine px_ldc2 X (v := 4294967295) mw_498 dX7_isAtMost_104 ?_
    refine px_land X dX7_isAtMost_107 ?_
    refine px_ladd X dX7_isAtMost_108 ?_
    refine px_naml (fun x9 ex9 => ?_)
    replace h := h x9 ex9
    refine px_lstore X (lv' := [(20, .long x9), (18, .long x8), (16, .long x7), (14, .long x6), (12, .long r2), (10, .long x5), (8, .long x4), (6, .long x3), (4, .long r2), (0, .long v0), (2, .int v2), (3, .int v3)]) dX7_isAtMost_109 (by decide) rfl ?_
    refine px_lload X (j := 0) dX7_isAtMost_111 rfl ?_
    refine px_ldc2 X (v := 4294967295) mw_498 dX7_isAtMost_113 ?_
    refine px_land X dX7_isAtMost_116 ?_
    refine px_naml (fun x10 ex10 => ?_)
    replace h := h x10 ex10
    refine px_lstore X (lv' := [(22, .long x10), (20, .long x9), (18, .long x8), (16, .long x7), (14, .long x6), (12, .long r2), (10, .long x5), (8, .long x4), (6, .long x3), (4, .long r2), (0, .long v0), (2, .int v2), (3, .int v3)]) dX7_isAtMost_117 (by decide) rfl ?_
    refine px_lload X (j := 4) dX7_isAtMost_119 rfl ?_
    refine px_ldc2 X (v := 4294967295) mw_498 dX7_isAtMost_121 ?_
    refine px_land X dX7_isAtMost_124 ?_
    refine px_naml (fun x11 ex11 => ?_)
    replace h := h x11 ex11
    refine px_lstore X (lv' := [(24, .long x11), (22, .long x10), (20, .long x9), (18, .long x8), (16, .long x7), (14, .long x6), (12, .long r2), (10, .long x5), (8, .long x4), (6, .long x3), (4, .long r2), (0, .long v0), (2, .int v2), (3, .int v3)]) dX7_isAtMost_125 (by decide) rfl ?_
    refine px_lload X (j := 3) dX7_isAtMost_127 rfl ?_
    refine px_bipush X (v := 32) dX7_isAtMost_129 (by decide) ?_
    refine px_lushr X (v := (x8.toUInt64 >>> ((32 : Int32).toInt64.toUInt64 &&& Int64.toUInt64 63)).toInt64) dX7_isAtMost_131 rfl ?_
    refine px_lload X (j := 2) dX7_isAtMost_132 rfl ?_
    refine px_bipush X (v := 32) dX7_isAtMost_134 (by decide) ?_
    refine px_lushr X (v := (x9.toUInt64 >>> ((32 : Int32).toInt64.toUInt64 &&& Int64.toUInt64 63)).toInt64) dX7_isAtMost_136 rfl ?_
    refine px_ladd X dX7_isAtMost_137 ?_
    refine px_lload X (j := 7) dX7_isAtMost_138 rfl ?_
    refine px_lload_n X (j := 11) dX7_isAtMost_140 rfl rfl ?_
    refine px_bipush X (v := 32) dX7_isAtMost_141 (by decide) ?_
    refine px_lushr X (v := (v0.toUInt64 >>> ((32 : Int32).toInt64.toUInt64 &&& Int64.toUInt64 63)).toInt64) dX7_isAtMost_143 rfl ?_
    refine px_lmul X dX7_isAtMost_144 ?_
    refine px_ladd X dX7_isAtMost_145 ?_
    refine px_lload X (j := 6) dX7_isAtMost_146 rfl ?_
    refine px_lload_n X (j := 11) dX7_isAtMost_148 rfl rfl ?_
    refine px_ldc2 X (v := 4294967295) mw_498 dX7_isAtMost_149 ?_
    refine px_land X dX7_isAtMost_152 ?_
    refine px_lmul X dX7_isAtMost_153 ?_
    refine px_ladd X dX7_isAtMost_154 ?_
    refine px_lload X (j := 6) dX7_isAtMost_155 rfl ?_
    refine px_lload_n X (j := 11) dX7_isAtMost_157 rfl rfl ?_
    refine px_bipush X (v := 32) dX7_isAtMost_158 (by decide) ?_
    refine px_lushr X (v := (v0.toUInt64 >>> ((32 : Int32).toInt64.toUInt64 &&& Int64.toUInt64 63)).toInt64) dX7_isAtMost_160 rfl ?_
    refine px_lmul X dX7_isAtMost_161 ?_
    refine px_bipush X (v := 32) dX7_isAtMost_162 (by decide) ?_
    refine px_lshl X (v := ((r2 * ((v0.toUInt64 >>> ((32 : Int32).toInt64.toUInt64 &&& Int64.toUInt64 63)).toInt64)) <<< ((32 : Int32).toInt64 &&& 63))) dX7_isAtMost_164 rfl ?_
    refine px_ladd X dX7_isAtMost_165 ?_
    refine px_naml (fun x12 ex12 => ?_)
    replace h := h x12 ex12
    refine px_lstore X (lv' := [(26, .long x12), (24, .long x11), (22, .long x10), (20, .long x9), (18, .long x8), (16, .long x7), (14, .long x6), (12, .long r2), (10, .long x5), (8, .long x4), (6, .long x3), (4, .long r2), (0, .long v0), (2, .int v2), (3, .int v3)]) dX7_isAtMost_166 (by decide) rfl ?_
    refine px_lload X (j := 0) dX7_isAtMost_168 rfl ?_
    refine px_iload_n X (j := 14) dX7_isAtMost_170 rfl rfl ?_
    refine px_i2l X (v := (v3).toInt64) dX7_isAtMost_171 rfl ?_
    refine px_bipush X (v := 32) dX7_isAtMost_172 (by decide) ?_
    refine px_lshl X (v := ((v3).toInt64 <<< ((32 : Int32).toInt64 &&& 63))) dX7_isAtMost_174 rfl ?_
    refine px_lcmp X dX7_isAtMost_175 ?_
    refine px_if_lt X (tgt := 204) dX7_isAtMost_176 (by decide) (fun c16 => ?_) (fun c16 => ?_)
    · replace h := h.1 c16
      refine px_iconst X (v := 1) dX7_isAtMost_204 (by decide) ?_
      refine px_goto X (tgt := 209) dX7_isAtMost_205 (by decide) ?_
      exact px_zret X hQ rfl h dX7_isAtMost_209
    · replace h := h.2 c16
      refine px_lload X (j := 0) dX7_isAtMost_179 rfl ?_
      refine px_iload_n X (j := 14) dX7_isAtMost_181 rfl rfl ?_
      refine px_i2l X (v := (v3).toInt64) dX7_isAtMost_182 rfl ?_
      refine px_bipush X (v := 32) dX7_isAtMost_183 (by decide) ?_
      refine px_lshl X (v := ((v3).toInt64 <<< ((32 : Int32).toInt64 &&& 63))) dX7_isAtMost_185 rfl ?_
      refine px_lcmp X dX7_isAtMost_186 ?_
      refine px_if_ne X (tgt := 208) dX7_isAtMost_187 (by decide) (fun c15 => ?_) (fun c15 => ?_)
      · replace h := h.1 c15
        refine px_iconst X (v := 0) dX7_isAtMost_208 (by decide) ?_
        exact px_zret X hQ rfl h dX7_isAtMost_209
      · replace h := h.2 c15
        refine px_lload X (j := 2) dX7_isAtMost_190 rfl ?_
        refine px_lconst X (v := 0) dX7_isAtMost_192 (by decide) ?_
        refine px_lcmp X dX7_isAtMost_193 ?_
        refine px_if_ne X (tgt := 208) dX7_isAtMost_194 (by decide) (fun c14 => ?_) (fun c14 => ?_)
        · replace h := h.1 c14
          refine px_iconst X (v := 0) dX7_isAtMost_208 (by decide) ?_
          exact px_zret X hQ rfl h dX7_isAtMost_209
        · replace h := h.2 c14
          refine px_lload X (j := 1) dX7_isAtMost_197 rfl ?_
          refine px_lconst X (v := 0) dX7_isAtMost_199 (by decide) ?_
          refine px_lcmp X dX7_isAtMost_200 ?_
          refine px_if_ne X (tgt := 208) dX7_isAtMost_201 (by decide) (fun c13 => ?_) (fun c13 => ?_)
          · replace h := h.1 c13
            refine px_iconst X (v := 0) dX7_isAtMost_208 (by decide) ?_
            exact px_zret X hQ rfl h dX7_isAtMost_209
          · replace h := h.2 c13
            refine px_iconst X (v := 1) dX7_isAtMost_204 (by decide) ?_
            refine px_goto X (tgt := 209) dX7_isAtMost_205 (by decide) ?_
            exact px_zret X hQ rfl h dX7_isAtMost_209
  · replace h := h.2 c20
    refine px_lload X (j := 1) dX7_isAtMost_17 rfl ?_
    refine px_iload_n X (j := 4) dX7_isAtMost_19 rfl rfl ?_
    refine px_i2l X (v := (v3).toInt64) dX7_isAtMost_20 rfl ?_
    refine px_lcmp X dX7_isAtMost_21 ?_
    refine px_if_lt X (tgt := 40) dX7_isAtMost_22 (by decide) (fun c19 => ?_) (fun c19 => ?_)
    · replace h := h.1 c19
      refine px_iconst X (v := 1) dX7_isAtMost_40 (by decide) ?_
      refine px_goto X (tgt := 45) dX7_isAtMost_41 (by decide) ?_
      exact px_zret X hQ rfl h dX7_isAtMost_45
    · replace h := h.2 c19
      refine px_lload X (j := 1) dX7_isAtMost_25 rfl ?_
      refine px_iload_n X (j := 4) dX7_isAtMost_27 rfl rfl ?_
      refine px_i2l X (v := (v3).toInt64) dX7_isAtMost_28 rfl ?_
      refine px_lcmp X dX7_isAtMost_29 ?_
      refine px_if_ne X (tgt := 44) dX7_isAtMost_30 (by decide) (fun c18 => ?_) (fun c18 => ?_)
      · replace h := h.1 c18
        refine px_iconst X (v := 0) dX7_isAtMost_44 (by decide) ?_
        exact px_zret X hQ rfl h dX7_isAtMost_45
      · replace h := h.2 c18
        refine px_lload X (j := 0) dX7_isAtMost_33 rfl ?_
        refine px_lconst X (v := 0) dX7_isAtMost_35 (by decide) ?_
        refine px_lcmp X dX7_isAtMost_36 ?_
        refine px_if_ne X (tgt := 44) dX7_isAtMost_37 (by decide) (fun c17 => ?_) (fun c17 => ?_)
        · replace h := h.1 c17
          refine px_iconst X (v := 0) dX7_isAtMost_44 (by decide) ?_
          exact px_zret X hQ rfl h dX7_isAtMost_45
        · replace h := h.2 c17
          refine px_iconst X (v := 1) dX7_isAtMost_40 (by decide) ?_
          refine px_goto X (tgt := 45) dX7_isAtMost_41 (by decide) ?_
          exact px_zret X hQ rfl h dX7_isAtMost_45
theorem c_X7_isAtMost {l : Launch} {Z : gx_Z} {u : gx_S} {v0 : Int64} {v2 : Int32} {v3 : Int32} {post : Int32 → gx_S → Prop} (h : S_X7_isAtMost u v0 v2 v3 post) : Met l yX7_isAtMost (Cond.code yX7_isAtMost cX7_isAtMost 28 (some .boolean) :: gx_TB) (gx_rm 1) (px_Pre Z u [.long v0, .int v2, .int v3]) (va_Qi post (px_B Z) (px_A Z)) 0 0 (px_A Z) := by
  refine px_met (by decide +kernel) (Nat.le_of_ble_eq_true rfl) ?_
  intro E X hZ hQ hD hL
  subst hZ
  exact w_X7_isAtMost X (Nat.le_of_eq hD.symm) hQ h
-- PlainSealModel$Hash.rootOf(II)I
theorem dX7_rootOf_0 : decode cX7_rootOf 0 = .ok (.lconst 0, 1) := by decide +kernel
theorem dX7_rootOf_1 : decode cX7_rootOf 1 = .ok (.lstore_n 2, 1) := by decide +kernel
theorem dX7_rootOf_2 : decode cX7_rootOf 2 = .ok (.ldc2_w 34, 3) := by decide +kernel
theorem dX7_rootOf_5 : decode cX7_rootOf 5 = .ok (.lstore 4, 2) := by decide +kernel
theorem dX7_rootOf_7 : decode cX7_rootOf 7 = .ok (.lload 4, 2) := by decide +kernel
theorem dX7_rootOf_9 : decode cX7_rootOf 9 = .ok (.lconst 0, 1) := by decide +kernel
theorem dX7_rootOf_10 : decode cX7_rootOf 10 = .ok (.lcmp, 1) := by decide +kernel
theorem dX7_rootOf_11 : decode cX7_rootOf 11 = .ok (.ifCond .le 29, 3) := by decide +kernel
theorem dX7_rootOf_14 : decode cX7_rootOf 14 = .ok (.lload_n 2, 1) := by decide +kernel
theorem dX7_rootOf_15 : decode cX7_rootOf 15 = .ok (.lload 4, 2) := by decide +kernel
theorem dX7_rootOf_17 : decode cX7_rootOf 17 = .ok (.ladd, 1) := by decide +kernel
theorem dX7_rootOf_18 : decode cX7_rootOf 18 = .ok (.iload_n 1, 1) := by decide +kernel
theorem dX7_rootOf_19 : decode cX7_rootOf 19 = .ok (.iload_n 0, 1) := by decide +kernel
theorem dX7_rootOf_20 : decode cX7_rootOf 20 = .ok (.invokestatic 36, 3) := by decide +kernel
theorem dX7_rootOf_23 : decode cX7_rootOf 23 = .ok (.ifCond .eq 8, 3) := by decide +kernel
theorem dX7_rootOf_26 : decode cX7_rootOf 26 = .ok (.lload_n 2, 1) := by decide +kernel
theorem dX7_rootOf_27 : decode cX7_rootOf 27 = .ok (.lload 4, 2) := by decide +kernel
theorem dX7_rootOf_29 : decode cX7_rootOf 29 = .ok (.ladd, 1) := by decide +kernel
theorem dX7_rootOf_30 : decode cX7_rootOf 30 = .ok (.lstore_n 2, 1) := by decide +kernel
theorem dX7_rootOf_31 : decode cX7_rootOf 31 = .ok (.lload 4, 2) := by decide +kernel
theorem dX7_rootOf_33 : decode cX7_rootOf 33 = .ok (.iconst 1, 1) := by decide +kernel
theorem dX7_rootOf_34 : decode cX7_rootOf 34 = .ok (.lshr, 1) := by decide +kernel
theorem dX7_rootOf_35 : decode cX7_rootOf 35 = .ok (.lstore 4, 2) := by decide +kernel
theorem dX7_rootOf_37 : decode cX7_rootOf 37 = .ok (.goto (-30), 3) := by decide +kernel
theorem dX7_rootOf_40 : decode cX7_rootOf 40 = .ok (.lload_n 2, 1) := by decide +kernel
theorem dX7_rootOf_41 : decode cX7_rootOf 41 = .ok (.l2i, 1) := by decide +kernel
theorem dX7_rootOf_42 : decode cX7_rootOf 42 = .ok (.ireturn, 1) := by decide +kernel
theorem hyX7_rootOf : yX7_rootOf.cls ≠ "java/lang/invoke/MethodHandle" ∧ yX7_rootOf.cls ≠ "java/lang/invoke/VarHandle" ∧ (parseMethodDescriptor yX7_rootOf.desc).map (fun d => d.parameters.length) = some 2 := by decide +kernel
abbrev J_X7_rootOf_7 (E : gx_E) (v0 : Int32) (v1 : Int32) (v2 : Int64) (v4 : Int64) (u : gx_S) : Prop := px_Wc E 6 7 [(0, .int v0), (1, .int v1), (2, .long v2), (4, .long v4)] [] u
set_option maxHeartbeats 4000000 in
set_option maxRecDepth 100000 in
theorem w_X7_rootOf_0 {E : gx_E} (X : px_X E cX7_rootOf 6 RX7 (some .int)) (hd : 3 ≤ ex_d E) {post : Int32 → gx_S → Prop} (hQ : ex_Q E = va_Qi post (px_B (ex_Z E)) (px_A (ex_Z E))) {u : gx_S} {v0 : Int32} {v1 : Int32} (h : J_X7_rootOf_7 E v0 v1 (0 : Int64) (68719476736 : Int64) u) : px_Wc E 6 0 [(0, .int v0), (1, .int v1)] [] u := by
  refine px_lconst X (v := 0) dX7_rootOf_0 (by decide) ?_
  refine px_lstore_n X (lv' := [(2, .long (0 : Int64)), (0, .int v0), (1, .int v1)]) dX7_rootOf_1 rfl (by decide) rfl ?_
  refine px_ldc2 X (v := 68719476736) mw_490 dX7_rootOf_2 ?_
  refine px_lstore X (lv' := [(4, .long (68719476736 : Int64)), (2, .long (0 : Int64)), (0, .int v0), (1, .int v1)]) dX7_rootOf_5 (by decide) rfl ?_
  exact px_sub [2, 3, 1, 0] rfl h
set_option maxHeartbeats 4000000 in
set_option maxRecDepth 100000 in
theorem w_X7_rootOf_7 {E : gx_E} (X : px_X E cX7_rootOf 6 RX7 (some .int)) (hd : 3 ≤ ex_d E) {post : Int32 → gx_S → Prop} (hQ : ex_Q E = va_Qi post (px_B (ex_Z E)) (px_A (ex_Z E))) {u : gx_S} {v0 : Int32} {v1 : Int32} {v2 : Int64} {v4 : Int64} (h : (((lg_cmp v4 (0 : Int64)) ≤ 0 → post (v2).toInt32 u) ∧ (¬ (lg_cmp v4 (0 : Int64)) ≤ 0 → (S_X7_isAtMost u (v2 + v4) v1 v0 (fun (r2 : Int32) (u1 : gx_S) => ((r2 = 0 → (∀ x3 : Int64, x3 = (v4 >>> ((1 : Int32).toInt64 &&& 63)) → J_X7_rootOf_7 E v0 v1 v2 x3 u1)) ∧ (¬ r2 = 0 → (∀ x4 : Int64, x4 = (v2 + v4) → (∀ x5 : Int64, x5 = (v4 >>> ((1 : Int32).toInt64 &&& 63)) → J_X7_rootOf_7 E v0 v1 x4 x5 u1))))))))) : px_Wc E 6 7 [(0, .int v0), (1, .int v1), (2, .long v2), (4, .long v4)] [] u := by
  refine px_lload X (j := 3) dX7_rootOf_7 rfl ?_
  refine px_lconst X (v := 0) dX7_rootOf_9 (by decide) ?_
  refine px_lcmp X dX7_rootOf_10 ?_
  refine px_if_le X (tgt := 40) dX7_rootOf_11 (by decide) (fun c7 => ?_) (fun c7 => ?_)
  · replace h := h.1 c7
    refine px_lload_n X (j := 2) dX7_rootOf_40 rfl rfl ?_
    refine px_l2i X (v := (v2).toInt32) dX7_rootOf_41 rfl ?_
    exact px_iret X hQ h dX7_rootOf_42
  · replace h := h.2 c7
    refine px_lload_n X (j := 2) dX7_rootOf_14 rfl rfl ?_
    refine px_lload X (j := 3) dX7_rootOf_15 rfl ?_
    refine px_ladd X dX7_rootOf_17 ?_
    refine px_iload_n X (j := 1) dX7_rootOf_18 rfl rfl ?_
    refine px_iload_n X (j := 0) dX7_rootOf_19 rfl rfl ?_
    refine px_ki (px_rS X (c_X7_isAtMost h) (Nat.le_trans (by decide) hd) (Nat.le_trans (by decide) (Nat.mul_le_mul_left 40 hd)) mw_491 mw_492 mw_10 mw_493 hyX7_isAtMost (As := [.long (v2 + v4), .int v1, .int v0]) (rest := []) rfl rfl (Nat.le_of_ble_eq_true rfl) dX7_rootOf_20) (fun r2 u1 h => ?_)
    refine px_if_eq X (tgt := 31) dX7_rootOf_23 (by decide) (fun c6 => ?_) (fun c6 => ?_)
    · replace h := h.1 c6
      refine px_lload X (j := 3) dX7_rootOf_31 rfl ?_
      refine px_iconst X (v := 1) dX7_rootOf_33 (by decide) ?_
      refine px_lshr X (v := (v4 >>> ((1 : Int32).toInt64 &&& 63))) dX7_rootOf_34 rfl ?_
      refine px_naml (fun x3 ex3 => ?_)
      replace h := h x3 ex3
      refine px_lstore X (lv' := [(4, .long x3), (0, .int v0), (1, .int v1), (2, .long v2)]) dX7_rootOf_35 (by decide) rfl ?_
      refine px_goto X (tgt := 7) dX7_rootOf_37 (by decide) ?_
      exact px_sub [1, 2, 3, 0] rfl h
    · replace h := h.2 c6
      refine px_lload_n X (j := 2) dX7_rootOf_26 rfl rfl ?_
      refine px_lload X (j := 3) dX7_rootOf_27 rfl ?_
      refine px_ladd X dX7_rootOf_29 ?_
      refine px_naml (fun x4 ex4 => ?_)
      replace h := h x4 ex4
      refine px_lstore_n X (lv' := [(2, .long x4), (0, .int v0), (1, .int v1), (4, .long v4)]) dX7_rootOf_30 rfl (by decide) rfl ?_
      refine px_lload X (j := 3) dX7_rootOf_31 rfl ?_
      refine px_iconst X (v := 1) dX7_rootOf_33 (by decide) ?_
      refine px_lshr X (v := (v4 >>> ((1 : Int32).toInt64 &&& 63))) dX7_rootOf_34 rfl ?_
      refine px_naml (fun x5 ex5 => ?_)
      replace h := h x5 ex5
      refine px_lstore X (lv' := [(4, .long x5), (2, .long x4), (0, .int v0), (1, .int v1)]) dX7_rootOf_35 (by decide) rfl ?_
      refine px_goto X (tgt := 7) dX7_rootOf_37 (by decide) ?_
      exact px_sub [2, 3, 1, 0] rfl h
-- PlainSealModel$Hash.isPrime(I)Z
theorem dX7_isPrime_0 : decode cX7_isPrime 0 = .ok (.iconst 2, 1) := by decide +kernel
theorem dX7_isPrime_1 : decode cX7_isPrime 1 = .ok (.istore_n 1, 1) := by decide +kernel
theorem dX7_isPrime_2 : decode cX7_isPrime 2 = .ok (.iload_n 1, 1) := by decide +kernel
theorem dX7_isPrime_3 : decode cX7_isPrime 3 = .ok (.iload_n 1, 1) := by decide +kernel
theorem dX7_isPrime_4 : decode cX7_isPrime 4 = .ok (.imul, 1) := by decide +kernel
theorem dX7_isPrime_5 : decode cX7_isPrime 5 = .ok (.iload_n 0, 1) := by decide +kernel
theorem dX7_isPrime_6 : decode cX7_isPrime 6 = .ok (.if_icmp .gt 17, 3) := by decide +kernel
theorem dX7_isPrime_9 : decode cX7_isPrime 9 = .ok (.iload_n 0, 1) := by decide +kernel
theorem dX7_isPrime_10 : decode cX7_isPrime 10 = .ok (.iload_n 1, 1) := by decide +kernel
theorem dX7_isPrime_11 : decode cX7_isPrime 11 = .ok (.irem, 1) := by decide +kernel
theorem dX7_isPrime_12 : decode cX7_isPrime 12 = .ok (.ifCond .ne 5, 3) := by decide +kernel
theorem dX7_isPrime_15 : decode cX7_isPrime 15 = .ok (.iconst 0, 1) := by decide +kernel
theorem dX7_isPrime_16 : decode cX7_isPrime 16 = .ok (.ireturn, 1) := by decide +kernel
theorem dX7_isPrime_17 : decode cX7_isPrime 17 = .ok (.iinc 1 1, 3) := by decide +kernel
theorem dX7_isPrime_20 : decode cX7_isPrime 20 = .ok (.goto (-18), 3) := by decide +kernel
theorem dX7_isPrime_23 : decode cX7_isPrime 23 = .ok (.iconst 1, 1) := by decide +kernel
theorem dX7_isPrime_24 : decode cX7_isPrime 24 = .ok (.ireturn, 1) := by decide +kernel
theorem hyX7_isPrime : yX7_isPrime.cls ≠ "java/lang/invoke/MethodHandle" ∧ yX7_isPrime.cls ≠ "java/lang/invoke/VarHandle" ∧ (parseMethodDescriptor yX7_isPrime.desc).map (fun d => d.parameters.length) = some 1 := by decide +kernel
abbrev J_X7_isPrime_2 (E : gx_E) (v0 : Int32) (v1 : Int32) (u : gx_S) : Prop := px_Wc E 2 2 [(0, .int v0), (1, .int v1)] [] u
set_option maxHeartbeats 4000000 in
set_option maxRecDepth 100000 in
theorem w_X7_isPrime_0 {E : gx_E} (X : px_X E cX7_isPrime 2 RX7 (some .boolean)) (hd : 0 ≤ ex_d E) {post : Int32 → gx_S → Prop} (hQ : ex_Q E = va_Qi post (px_B (ex_Z E)) (px_A (ex_Z E))) {u : gx_S} {v0 : Int32} (h : J_X7_isPrime_2 E v0 (2 : Int32) u) : px_Wc E 2 0 [(0, .int v0)] [] u := by
  refine px_iconst X (v := 2) dX7_isPrime_0 (by decide) ?_
  refine px_istore_n X (lv' := [(1, .int (2 : Int32)), (0, .int v0)]) dX7_isPrime_1 rfl (by decide) rfl ?_
  exact px_sub [1, 0] rfl h
set_option maxHeartbeats 4000000 in
set_option maxRecDepth 100000 in
theorem w_X7_isPrime_2 {E : gx_E} (X : px_X E cX7_isPrime 2 RX7 (some .boolean)) (hd : 0 ≤ ex_d E) {post : Int32 → gx_S → Prop} (hQ : ex_Q E = va_Qi post (px_B (ex_Z E)) (px_A (ex_Z E))) {u : gx_S} {v0 : Int32} {v1 : Int32} (h : ((v0 < (v1 * v1) → post (1 : Int32) u) ∧ (¬ v0 < (v1 * v1) → (¬ v1 = 0 ∧ ((¬ (v0 - v0 / v1 * v1) = 0 → (∀ x2 : Int32, x2 = v1 + 1 → J_X7_isPrime_2 E v0 x2 u)) ∧ ((v0 - v0 / v1 * v1) = 0 → post (0 : Int32) u)))))) : px_Wc E 2 2 [(0, .int v0), (1, .int v1)] [] u := by
  refine px_iload_n X (j := 1) dX7_isPrime_2 rfl rfl ?_
  refine px_iload_n X (j := 1) dX7_isPrime_3 rfl rfl ?_
  refine px_imul X dX7_isPrime_4 ?_
  refine px_iload_n X (j := 0) dX7_isPrime_5 rfl rfl ?_
  refine px_icmp_gt X (tgt := 23) dX7_isPrime_6 (by decide) (fun c4 => ?_) (fun c4 => ?_)
  · replace h := h.1 c4
    refine px_iconst X (v := 1) dX7_isPrime_23 (by decide) ?_
    exact px_zret X hQ rfl h dX7_isPrime_24
  · replace h := h.2 c4
    refine px_iload_n X (j := 0) dX7_isPrime_9 rfl rfl ?_
    refine px_iload_n X (j := 1) dX7_isPrime_10 rfl rfl ?_
    obtain ⟨k1, h⟩ := h
    refine px_irem X dX7_isPrime_11 k1 ?_
    refine px_if_ne X (tgt := 17) dX7_isPrime_12 (by decide) (fun c3 => ?_) (fun c3 => ?_)
    · replace h := h.1 c3
      obtain ⟨x2, ex2⟩ : ∃ y : Int32, y = v1 + 1 := ⟨_, rfl⟩
      replace h := h x2 ex2
      refine px_iinc X (v := x2) (lv' := [(1, .int x2), (0, .int v0)]) dX7_isPrime_17 (j := 1) rfl (by rw [ex2]; rfl) (by decide) rfl ?_
      refine px_goto X (tgt := 2) dX7_isPrime_20 (by decide) ?_
      exact px_sub [1, 0] rfl h
    · replace h := h.2 c3
      refine px_iconst X (v := 0) dX7_isPrime_15 (by decide) ?_
      exact px_zret X hQ rfl h dX7_isPrime_16

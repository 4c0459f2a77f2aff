theorem mi_21 : Cond.methodLink RX6 1 objectInit ∈ gx_TB := List.mem_filter.mpr ⟨List.mem_append_right _ (List.mem_of_getElem? (i := 21) (by decide +kernel)), by decide +kernel⟩
theorem mi_22 : Cond.instanceMethod objectInit ∈ gx_TB := List.mem_filter.mpr ⟨List.mem_append_right _ (List.mem_of_getElem? (i := 22) (by decide +kernel)), by decide +kernel⟩
set_option maxRecDepth 100000 in
theorem mi_23 : Cond.code objectInit ⟨#[0xb1]⟩ 1 none ∈ gx_TB := List.mem_filter.mpr ⟨List.mem_append_right _ (List.mem_of_getElem? (i := 23) rfl), by decide +kernel⟩
theorem mi_24 : Cond.classLink RX6 7 RX0 ∈ gx_TB := List.mem_filter.mpr ⟨List.mem_append_right _ (List.mem_of_getElem? (i := 24) (by decide +kernel)), by decide +kernel⟩
theorem mi_25 : Cond.instantiable RX0 2 ∈ gx_TB := List.mem_filter.mpr ⟨List.mem_append_right _ (List.mem_of_getElem? (i := 25) (by decide +kernel)), by decide +kernel⟩
theorem mi_26 : Cond.methodLink RX6 9 yX0_init ∈ gx_TB := List.mem_filter.mpr ⟨List.mem_append_right _ (List.mem_of_getElem? (i := 26) (by decide +kernel)), by decide +kernel⟩
theorem mi_27 : Cond.instanceMethod yX0_init ∈ gx_TB := List.mem_filter.mpr ⟨List.mem_append_right _ (List.mem_of_getElem? (i := 27) (by decide +kernel)), by decide +kernel⟩
set_option maxRecDepth 100000 in
theorem mi_28 : Cond.code yX0_init cX0_init 1 none ∈ gx_TB := List.mem_filter.mpr ⟨List.mem_append_right _ (List.mem_of_getElem? (i := 28) rfl), by decide +kernel⟩
theorem mi_29 : Cond.methodLink RX0 3 objectInit ∈ gx_TB := List.mem_filter.mpr ⟨List.mem_append_right _ (List.mem_of_getElem? (i := 29) (by decide +kernel)), by decide +kernel⟩
theorem mi_37 : Cond.arrayClass .byte ∈ gx_TB := List.mem_filter.mpr ⟨List.mem_append_right _ (List.mem_of_getElem? (i := 37) (by decide +kernel)), by decide +kernel⟩
theorem mi_38 : Cond.classLink RX6 19 RX1 ∈ gx_TB := List.mem_filter.mpr ⟨List.mem_append_right _ (List.mem_of_getElem? (i := 38) (by decide +kernel)), by decide +kernel⟩
theorem mi_39 : Cond.instantiable RX1 3 ∈ gx_TB := List.mem_filter.mpr ⟨List.mem_append_right _ (List.mem_of_getElem? (i := 39) (by decide +kernel)), by decide +kernel⟩
theorem mi_40 : Cond.methodLink RX6 21 yX1_init ∈ gx_TB := List.mem_filter.mpr ⟨List.mem_append_right _ (List.mem_of_getElem? (i := 40) (by decide +kernel)), by decide +kernel⟩
theorem mi_41 : Cond.instanceMethod yX1_init ∈ gx_TB := List.mem_filter.mpr ⟨List.mem_append_right _ (List.mem_of_getElem? (i := 41) (by decide +kernel)), by decide +kernel⟩
set_option maxRecDepth 100000 in
theorem mi_42 : Cond.code yX1_init cX1_init 1 none ∈ gx_TB := List.mem_filter.mpr ⟨List.mem_append_right _ (List.mem_of_getElem? (i := 42) rfl), by decide +kernel⟩
theorem mi_43 : Cond.methodLink RX1 3 objectInit ∈ gx_TB := List.mem_filter.mpr ⟨List.mem_append_right _ (List.mem_of_getElem? (i := 43) (by decide +kernel)), by decide +kernel⟩
theorem mi_44 : Cond.classLink RX1 9 RX0 ∈ gx_TB := List.mem_filter.mpr ⟨List.mem_append_right _ (List.mem_of_getElem? (i := 44) (by decide +kernel)), by decide +kernel⟩
theorem mi_45 : Cond.methodLink RX1 11 yX0_init ∈ gx_TB := List.mem_filter.mpr ⟨List.mem_append_right _ (List.mem_of_getElem? (i := 45) (by decide +kernel)), by decide +kernel⟩
theorem mi_56 : Cond.arrayClass .int ∈ gx_TB := List.mem_filter.mpr ⟨List.mem_append_right _ (List.mem_of_getElem? (i := 56) (by decide +kernel)), by decide +kernel⟩
theorem mi_57 : Cond.classLink RX6 26 RX5 ∈ gx_TB := List.mem_filter.mpr ⟨List.mem_append_right _ (List.mem_of_getElem? (i := 57) (by decide +kernel)), by decide +kernel⟩
theorem mi_58 : Cond.instantiable RX5 1 ∈ gx_TB := List.mem_filter.mpr ⟨List.mem_append_right _ (List.mem_of_getElem? (i := 58) (by decide +kernel)), by decide +kernel⟩
theorem mi_59 : Cond.methodLink RX6 28 yX5_init ∈ gx_TB := List.mem_filter.mpr ⟨List.mem_append_right _ (List.mem_of_getElem? (i := 59) (by decide +kernel)), by decide +kernel⟩
theorem mi_60 : Cond.instanceMethod yX5_init ∈ gx_TB := List.mem_filter.mpr ⟨List.mem_append_right _ (List.mem_of_getElem? (i := 60) (by decide +kernel)), by decide +kernel⟩
set_option maxRecDepth 100000 in
theorem mi_61 : Cond.code yX5_init cX5_init 1 none ∈ gx_TB := List.mem_filter.mpr ⟨List.mem_append_right _ (List.mem_of_getElem? (i := 61) rfl), by decide +kernel⟩
theorem mi_62 : Cond.methodLink RX5 3 objectInit ∈ gx_TB := List.mem_filter.mpr ⟨List.mem_append_right _ (List.mem_of_getElem? (i := 62) (by decide +kernel)), by decide +kernel⟩
theorem mi_63 : Cond.classLink RX5 9 RX0 ∈ gx_TB := List.mem_filter.mpr ⟨List.mem_append_right _ (List.mem_of_getElem? (i := 63) (by decide +kernel)), by decide +kernel⟩
theorem mi_64 : Cond.methodLink RX5 11 yX0_init ∈ gx_TB := List.mem_filter.mpr ⟨List.mem_append_right _ (List.mem_of_getElem? (i := 64) (by decide +kernel)), by decide +kernel⟩
theorem mi_69 : Cond.classLink RX6 33 RX3 ∈ gx_TB := List.mem_filter.mpr ⟨List.mem_append_right _ (List.mem_of_getElem? (i := 69) (by decide +kernel)), by decide +kernel⟩
theorem mi_70 : Cond.instantiable RX3 3 ∈ gx_TB := List.mem_filter.mpr ⟨List.mem_append_right _ (List.mem_of_getElem? (i := 70) (by decide +kernel)), by decide +kernel⟩
theorem mi_71 : Cond.methodLink RX6 35 yX3_init ∈ gx_TB := List.mem_filter.mpr ⟨List.mem_append_right _ (List.mem_of_getElem? (i := 71) (by decide +kernel)), by decide +kernel⟩
theorem mi_72 : Cond.instanceMethod yX3_init ∈ gx_TB := List.mem_filter.mpr ⟨List.mem_append_right _ (List.mem_of_getElem? (i := 72) (by decide +kernel)), by decide +kernel⟩
set_option maxRecDepth 100000 in
theorem mi_73 : Cond.code yX3_init cX3_init 1 none ∈ gx_TB := List.mem_filter.mpr ⟨List.mem_append_right _ (List.mem_of_getElem? (i := 73) rfl), by decide +kernel⟩
theorem mi_74 : Cond.methodLink RX3 1 objectInit ∈ gx_TB := List.mem_filter.mpr ⟨List.mem_append_right _ (List.mem_of_getElem? (i := 74) (by decide +kernel)), by decide +kernel⟩
theorem mi_85 : Cond.classLink RX6 40 RX2 ∈ gx_TB := List.mem_filter.mpr ⟨List.mem_append_right _ (List.mem_of_getElem? (i := 85) (by decide +kernel)), by decide +kernel⟩
theorem mi_86 : Cond.instantiable RX2 4 ∈ gx_TB := List.mem_filter.mpr ⟨List.mem_append_right _ (List.mem_of_getElem? (i := 86) (by decide +kernel)), by decide +kernel⟩
theorem mi_87 : Cond.methodLink RX6 42 yX2_init ∈ gx_TB := List.mem_filter.mpr ⟨List.mem_append_right _ (List.mem_of_getElem? (i := 87) (by decide +kernel)), by decide +kernel⟩
theorem mi_88 : Cond.instanceMethod yX2_init ∈ gx_TB := List.mem_filter.mpr ⟨List.mem_append_right _ (List.mem_of_getElem? (i := 88) (by decide +kernel)), by decide +kernel⟩
set_option maxRecDepth 100000 in
theorem mi_89 : Cond.code yX2_init cX2_init 1 none ∈ gx_TB := List.mem_filter.mpr ⟨List.mem_append_right _ (List.mem_of_getElem? (i := 89) rfl), by decide +kernel⟩
theorem mi_90 : Cond.methodLink RX2 1 objectInit ∈ gx_TB := List.mem_filter.mpr ⟨List.mem_append_right _ (List.mem_of_getElem? (i := 90) (by decide +kernel)), by decide +kernel⟩
theorem dX0_init_0 : decode cX0_init 0 = .ok (.aload_n 0, 1) := by decide +kernel
theorem dX0_init_1 : decode cX0_init 1 = .ok (.invokespecial 3, 3) := by decide +kernel
theorem dX0_init_4 : decode cX0_init 4 = .ok (.aload_n 0, 1) := by decide +kernel
theorem dX0_init_5 : decode cX0_init 5 = .ok (.sipush 2000, 3) := by decide +kernel
theorem dX0_init_8 : decode cX0_init 8 = .ok (.newarray .byte, 2) := by decide +kernel
theorem dX0_init_10 : decode cX0_init 10 = .ok (.putfield 9, 3) := by decide +kernel
theorem dX0_init_13 : decode cX0_init 13 = .ok (.aload_n 0, 1) := by decide +kernel
theorem dX0_init_14 : decode cX0_init 14 = .ok (.iconst 0, 1) := by decide +kernel
theorem dX0_init_15 : decode cX0_init 15 = .ok (.putfield 15, 3) := by decide +kernel
theorem dX0_init_18 : decode cX0_init 18 = .ok (.return_, 1) := by decide +kernel
def at_X0_init (dC : Nat → ClassId) (dI : Nat → Nat → Nat) (A : Nat → Prop) (h0 : Nat) (t : State) : Prop := ∃ q1 : Nat, ∃ k1 : ClassId, va_P (dC, dI) classes [(h0, .inr (0, [.ref q1, .int 0])), (q1, .inl (k1, 2000, .inl (fun _ => 0)))] t.heap ∧ va_K (dC, dI) classes [(k1, .byte)] t ∧ va_D A [(h0, .inr (0, [.ref q1, .int 0])), (q1, .inl (k1, 2000, .inl (fun _ => 0)))]
set_option maxHeartbeats 4000000 in
set_option maxRecDepth 100000 in
theorem c_X0_init (l : Launch) (dC : Nat → ClassId) (dI : Nat → Nat → Nat) (h0 : Nat) (sz : Nat) : Met l yX0_init (Cond.code yX0_init cX0_init 1 none :: gx_TB) ({ frames := 1, cells := 1, slots := 2000, locals := 12 }) (va_Pc [.ref h0] (fun U => U.heap.size = sz ∧ va_P (dC, dI) classes [(h0, .inr (0, [.null, .int 0]))] U.heap ∧ va_K (dC, dI) classes [] U ∧ va_D (fun _ => True) [(h0, .inr (0, [.null, .int 0]))])) (va_Qv (fun _ : Unit => True) (fun _ t => at_X0_init dC dI (va_A [(h0, .inr (0, [.null, .int 0]))] sz) h0 t) (va_A [(h0, .inr (0, [.null, .int 0]))] sz)) 1 2000 (va_A [(h0, .inr (0, [.null, .int 0]))] sz) := by
  refine Met.ofW (cc := cX0_init) (maxL := 1) (ret := none) (by decide +kernel) rfl ?_
  intro p e s m args below meth c s₁ B hml hv
  obtain ⟨rfl, hsz, hP, hK, hD0⟩ := hv
  have hx := B.exec
  have hb := B.bytes
  have hr := B.returns
  have hts := atoms_spec (ws := Cond.code yX0_init cX0_init 1 none :: gx_TB) B.pre
  have htb : ∀ w ∈ gx_TB, w.before _ s = true := fun w hw => hts w (List.mem_cons_of_mem _ hw)
  have hown : s.vm.findClass RX0 = some m.cls := findClass_of_methodNamed B.named
  have hlocks := B.notSynchronized
  have hin : meth.name = "<init>" := (name_of_methodNamed B.named B.method).1
  subst hsz
  have hD := hD0.self (sz := s.heap.size)
  generalize hAe : va_A [(h0, .inr (0, [.null, .int 0]))] s.heap.size = A at hD ⊢
  have hA : ∀ q : Nat, s.heap.size ≤ q → A q := fun q h => by rw [← hAe]; exact Or.inr h
  have hS : va_S A s.heap s.heap [] := va_S.rf
  have hP : va_P (dC, dI) classes [(h0, .inr (0, [.null, .int 0]))] s.heap := hP
  have hl := lv_entry ([.ref h0]) (n := 1) (Nat.le_of_ble_eq_true rfl)
  rw [lg_entry_eq]
  generalize (lg_sl ([.ref h0]) ++ List.replicate (1 - (lg_sl ([.ref h0])).length) Slot.unset).toArray = ls at hl ⊢
  have hl : lv_has ls 1 [(0, .ref h0)] := hl
  refine lv_aload_n hx hb dX0_init_0 rfl (lv_at hl 0 rfl) ?_
  refine W.objInit hx hb hown (htb _ mi_29) (htb _ mi_22) (htb _ mi_23) rfl (by rw [hml]; exact hl.1) rfl dX0_init_1 (Nat.le_of_ble_eq_true rfl) (Nat.le_of_ble_eq_true rfl) ?_
  refine W.eq (g2 := F0 m 4 ls []) rfl ?_
  refine lv_aload_n hx hb dX0_init_4 rfl (lv_at hl 0 rfl) ?_
  refine lv_sipush (v := 2000) hx hb dX0_init_5 (by decide) ?_
  refine va_newa (atype := .byte) (a0 := (2000, .inl (fun _ => 0))) hx hb (htb _ mi_37) (ty := .byte) rfl hK hP hD hS hA (N' := 2000) (fun _ => rfl) (by decide) (by decide) (by decide) (Nat.le_of_ble_eq_true rfl) (Nat.le_of_ble_eq_true rfl) dX0_init_8 (fun q1 k1 H hK hP hD hS => ?_)
  have hP : va_P (dC, dI) classes [(h0, .inr (0, [.null, .int 0])), (q1, .inl (k1, 2000, .inl (fun _ => 0)))] H := hP
  have hD : va_D A [(h0, .inr (0, [.null, .int 0])), (q1, .inl (k1, 2000, .inl (fun _ => 0)))] := hD
  have hK : va_K (dC, dI) classes [(k1, .byte)] s := hK
  refine W.widen (k := 1) (n := 2000) (by omega) (by omega) ?_
  refine va_putF (D := (dC, dI)) (ci := 0) (v := .ref q1) (ty := .array .byte) (C := RX0) (T := TX0) (N := 2) hx hb htb iwX0 tyX0 tyX0_ok nmX0 hown hK hP hD hS 0 rfl rfl 0 (by decide) (htb _ mw_30) (fun _ h9 => h9) rfl hin rfl (by decide +kernel) rfl rfl (Nat.le_of_ble_eq_true rfl) dX0_init_10 (fun H locs hP hD hS => ?_)
  have hP : va_P (dC, dI) classes [(h0, .inr (0, [.ref q1, .int 0])), (q1, .inl (k1, 2000, .inl (fun _ => 0)))] H := hP
  have hD : va_D A [(h0, .inr (0, [.ref q1, .int 0])), (q1, .inl (k1, 2000, .inl (fun _ => 0)))] := hD
  refine lv_aload_n hx hb dX0_init_13 rfl (lv_at hl 0 rfl) ?_
  refine lv_iconst (v := 0) hx hb dX0_init_14 (by decide) ?_
  refine va_put (D := (dC, dI)) (ci := 0) (v := .int 0) (ty := .int) (C := RX0) (T := TX0) (N := 2) hx hb htb iwX0 tyX0 tyX0_ok nmX0 hown hK hP hD hS 0 rfl rfl 1 (by decide) (htb _ mw_31) (fun _ h9 => h9) rfl (by decide +kernel) rfl rfl (Nat.le_of_ble_eq_true rfl) dX0_init_15 (fun H locs hP hD hS => ?_)
  have hP : va_P (dC, dI) classes [(h0, .inr (0, [.ref q1, .int 0])), (q1, .inl (k1, 2000, .inl (fun _ => 0)))] H := hP
  have hD : va_D A [(h0, .inr (0, [.ref q1, .int 0])), (q1, .inl (k1, 2000, .inl (fun _ => 0)))] := hD
  have hP9 := hP.sub (ws' := [(h0, .inr (0, [.ref q1, .int 0])), (q1, .inl (k1, 2000, .inl (fun _ => 0)))]) [0, 1] rfl
  have hD9 := hD.sub (ws' := [(h0, .inr (0, [.ref q1, .int 0])), (q1, .inl (k1, 2000, .inl (fun _ => 0)))]) [0, 1] (by decide) rfl
  have hK9 := hK.sub (tys' := [(k1, .byte)]) [0] rfl
  exact W.vret hx hb hr (fun t ht hW => ⟨⟨(), rfl, trivial, q1, k1, by rw [ht]; exact hP9, va_K.moved hW.alike hK9, hD9⟩, hS.F ht⟩) hS.2.2 dX0_init_18
theorem dX1_init_0 : decode cX1_init 0 = .ok (.aload_n 0, 1) := by decide +kernel
theorem dX1_init_1 : decode cX1_init 1 = .ok (.invokespecial 3, 3) := by decide +kernel
theorem dX1_init_4 : decode cX1_init 4 = .ok (.aload_n 0, 1) := by decide +kernel
theorem dX1_init_5 : decode cX1_init 5 = .ok (.new 9, 3) := by decide +kernel
theorem dX1_init_8 : decode cX1_init 8 = .ok (.dup, 1) := by decide +kernel
theorem dX1_init_9 : decode cX1_init 9 = .ok (.invokespecial 11, 3) := by decide +kernel
theorem dX1_init_12 : decode cX1_init 12 = .ok (.putfield 12, 3) := by decide +kernel
theorem dX1_init_15 : decode cX1_init 15 = .ok (.aload_n 0, 1) := by decide +kernel
theorem dX1_init_16 : decode cX1_init 16 = .ok (.bipush 21, 2) := by decide +kernel
theorem dX1_init_18 : decode cX1_init 18 = .ok (.newarray .int, 2) := by decide +kernel
theorem dX1_init_20 : decode cX1_init 20 = .ok (.putfield 18, 3) := by decide +kernel
theorem dX1_init_23 : decode cX1_init 23 = .ok (.aload_n 0, 1) := by decide +kernel
theorem dX1_init_24 : decode cX1_init 24 = .ok (.iconst 0, 1) := by decide +kernel
theorem dX1_init_25 : decode cX1_init 25 = .ok (.putfield 22, 3) := by decide +kernel
theorem dX1_init_28 : decode cX1_init 28 = .ok (.return_, 1) := by decide +kernel
def at_X1_init (dC : Nat → ClassId) (dI : Nat → Nat → Nat) (A : Nat → Prop) (h0 : Nat) (t : State) : Prop := ∃ q1 : Nat, ∃ q2 : Nat, ∃ k3 : ClassId, ∃ q4 : Nat, ∃ k4 : ClassId, va_P (dC, dI) classes [(h0, .inr (1, [.ref q1, .ref q4, .int 0])), (q1, .inr (0, [.ref q2, .int 0])), (q2, .inl (k3, 2000, .inl (fun _ => 0))), (q4, .inl (k4, 21, .inl (fun _ => 0)))] t.heap ∧ va_K (dC, dI) classes [(k3, .byte), (k4, .int)] t ∧ va_D A [(h0, .inr (1, [.ref q1, .ref q4, .int 0])), (q1, .inr (0, [.ref q2, .int 0])), (q2, .inl (k3, 2000, .inl (fun _ => 0))), (q4, .inl (k4, 21, .inl (fun _ => 0)))]
set_option maxHeartbeats 4000000 in
set_option maxRecDepth 100000 in
theorem c_X1_init (l : Launch) (dC : Nat → ClassId) (dI : Nat → Nat → Nat) (h0 : Nat) (sz : Nat) : Met l yX1_init (Cond.code yX1_init cX1_init 1 none :: gx_TB) ({ frames := 2, cells := 3, slots := 2023, locals := 32 }) (va_Pc [.ref h0] (fun U => U.heap.size = sz ∧ va_P (dC, dI) classes [(h0, .inr (1, [.null, .null, .int 0]))] U.heap ∧ va_K (dC, dI) classes [] U ∧ va_D (fun _ => True) [(h0, .inr (1, [.null, .null, .int 0]))])) (va_Qv (fun _ : Unit => True) (fun _ t => at_X1_init dC dI (va_A [(h0, .inr (1, [.null, .null, .int 0]))] sz) h0 t) (va_A [(h0, .inr (1, [.null, .null, .int 0]))] sz)) 3 2023 (va_A [(h0, .inr (1, [.null, .null, .int 0]))] sz) := by
  refine Met.ofW (cc := cX1_init) (maxL := 1) (ret := none) (by decide +kernel) rfl ?_
  intro p e s m args below meth c s₁ B hml hv
  obtain ⟨rfl, hsz, hP, hK, hD0⟩ := hv
  have hx := B.exec
  have hb := B.bytes
  have hr := B.returns
  have hts := atoms_spec (ws := Cond.code yX1_init cX1_init 1 none :: gx_TB) B.pre
  have htb : ∀ w ∈ gx_TB, w.before _ s = true := fun w hw => hts w (List.mem_cons_of_mem _ hw)
  have hown : s.vm.findClass RX1 = some m.cls := findClass_of_methodNamed B.named
  have hlocks := B.notSynchronized
  have hin : meth.name = "<init>" := (name_of_methodNamed B.named B.method).1
  subst hsz
  have hD := hD0.self (sz := s.heap.size)
  generalize hAe : va_A [(h0, .inr (1, [.null, .null, .int 0]))] s.heap.size = A at hD ⊢
  have hA : ∀ q : Nat, s.heap.size ≤ q → A q := fun q h => by rw [← hAe]; exact Or.inr h
  have hS : va_S A s.heap s.heap [] := va_S.rf
  have hP : va_P (dC, dI) classes [(h0, .inr (1, [.null, .null, .int 0]))] s.heap := hP
  have hl := lv_entry ([.ref h0]) (n := 1) (Nat.le_of_ble_eq_true rfl)
  rw [lg_entry_eq]
  generalize (lg_sl ([.ref h0]) ++ List.replicate (1 - (lg_sl ([.ref h0])).length) Slot.unset).toArray = ls at hl ⊢
  have hl : lv_has ls 1 [(0, .ref h0)] := hl
  refine lv_aload_n hx hb dX1_init_0 rfl (lv_at hl 0 rfl) ?_
  refine W.objInit hx hb hown (htb _ mi_43) (htb _ mi_22) (htb _ mi_23) rfl (by rw [hml]; exact hl.1) rfl dX1_init_1 (Nat.le_of_ble_eq_true rfl) (Nat.le_of_ble_eq_true rfl) ?_
  refine W.eq (g2 := F0 m 4 ls []) rfl ?_
  refine lv_aload_n hx hb dX1_init_4 rfl (lv_at hl 0 rfl) ?_
  refine va_new (ci := 0) (fs := [.null, .int 0]) (C := RX0) (T := TX0) (N := 2) hx hb htb iwX0 tyX0 tyX0_ok hown (htb _ mi_44) (htb _ mi_25) (htb _ mw_2) hK hP hD hS hA rfl (fun j hj => by rcases (show j = 0 ∨ j = 1 by omega) with rfl | rfl <;> rfl) (Nat.le_of_ble_eq_true rfl) (Nat.le_of_ble_eq_true rfl) dX1_init_5 (fun q1 H hP hD hS => ?_)
  have hP : va_P (dC, dI) classes [(h0, .inr (1, [.null, .null, .int 0])), (q1, .inr (0, [.null, .int 0]))] H := hP
  have hD : va_D A [(h0, .inr (1, [.null, .null, .int 0])), (q1, .inr (0, [.null, .int 0]))] := hD
  refine W.widen (k := 1) (n := 2) (by omega) (by omega) ?_
  refine lv_dup hx hb dX1_init_8 rfl ?_
  have hPc := hP.sub (ws' := [(q1, .inr (0, [.null, .int 0]))]) [1] rfl
  have hDc := hD.sub (ws' := [(q1, .inr (0, [.null, .int 0]))]) [1] (by decide) rfl
  have hKc := hK.sub (tys' := []) [] rfl
  have hFc := va_free (wc := [(q1, .inr (0, [.null, .int 0]))]) hD hS hA [1] rfl
  refine va_callv (va_runI (As := []) (rest := [.ref q1, .ref h0]) ⟨hx, hb, hml, hown, htb⟩ (c_X0_init l dC dI q1 H.size) (cwI 0 htb (gx_goodT mi_28) rfl rfl rfl (htb _ mw_2) (htb _ mi_45) (htb _ mi_27) rfl (by decide +kernel) ⟨Nat.le_of_ble_eq_true rfl, Nat.le_of_ble_eq_true rfl⟩) ⟨fun a U g mk q => by obtain ⟨q0, q1, qP, qK, qD⟩ := q; exact ⟨q0, q1, qP, va_K.moved (u := U) (U := U.calling g mk a) (Vm.Alike.refl U.vm) qK, qD⟩, fun U hU hW => ⟨rfl, by rw [hU], by rw [hU]; exact hPc, va_K.moved hW.alike hKc, hDc.weaken (fun _ _ _ _ => trivial)⟩⟩ rfl rfl hl.1 rfl (lv_room (Nat.le_of_ble_eq_true rfl)) dX1_init_9 ⟨Nat.le_of_ble_eq_true rfl, Nat.le_of_ble_eq_true rfl⟩) hS (fun q _ h => hFc q h) hFc (fun u t H1 locs ht hvm hw hB hz1 hk1 hS => ?_)
  obtain ⟨q2, k3, hP1, hK1, hD1⟩ := hB
  rw [ht] at hP1
  have hK1 := va_K.moved hvm.symm hK1
  obtain ⟨hP, hD⟩ := va_join (wr := [(h0, .inr (1, [.null, .null, .int 0]))]) (w1 := [(q1, .inr (0, [.ref q2, .int 0])), (q2, .inl (k3, 2000, .inl (fun _ => 0)))]) hP hD [1] [0] rfl rfl (by decide) (by decide) hk1 hFc hP1 hD1
  have hK := (hK.sub (tys' := []) [] rfl).app hK1
  generalize H1 = H at hP hS ⊢
  have hP : va_P (dC, dI) classes [(h0, .inr (1, [.null, .null, .int 0])), (q1, .inr (0, [.ref q2, .int 0])), (q2, .inl (k3, 2000, .inl (fun _ => 0)))] H := hP
  have hD : va_D A [(h0, .inr (1, [.null, .null, .int 0])), (q1, .inr (0, [.ref q2, .int 0])), (q2, .inl (k3, 2000, .inl (fun _ => 0)))] := hD
  have hK : va_K (dC, dI) classes [(k3, .byte)] s := hK
  refine W.widen (k := 2) (n := 2002) (by omega) (by omega) ?_
  refine va_putF (D := (dC, dI)) (ci := 1) (v := .ref q1) (ty := .object "PlainSeal$Bytes") (C := RX1) (T := TX1) (N := 3) hx hb htb iwX1 tyX1 tyX1_ok nmX1 hown hK hP hD hS 0 rfl rfl 0 (by decide) (htb _ mw_46) (fun _ h9 => h9) rfl hin rfl (by decide +kernel) rfl rfl (Nat.le_of_ble_eq_true rfl) dX1_init_12 (fun H locs hP hD hS => ?_)
  have hP : va_P (dC, dI) classes [(h0, .inr (1, [.ref q1, .null, .int 0])), (q1, .inr (0, [.ref q2, .int 0])), (q2, .inl (k3, 2000, .inl (fun _ => 0)))] H := hP
  have hD : va_D A [(h0, .inr (1, [.ref q1, .null, .int 0])), (q1, .inr (0, [.ref q2, .int 0])), (q2, .inl (k3, 2000, .inl (fun _ => 0)))] := hD
  refine lv_aload_n hx hb dX1_init_15 rfl (lv_at hl 0 rfl) ?_
  refine lv_bipush (v := 21) hx hb dX1_init_16 (by decide) ?_
  refine va_newa (atype := .int) (a0 := (21, .inl (fun _ => 0))) hx hb (htb _ mi_56) (ty := .int) rfl hK hP hD hS hA (N' := 21) (fun _ => rfl) (by decide) (by decide) (by decide) (Nat.le_of_ble_eq_true rfl) (Nat.le_of_ble_eq_true rfl) dX1_init_18 (fun q4 k4 H hK hP hD hS => ?_)
  have hP : va_P (dC, dI) classes [(h0, .inr (1, [.ref q1, .null, .int 0])), (q1, .inr (0, [.ref q2, .int 0])), (q2, .inl (k3, 2000, .inl (fun _ => 0))), (q4, .inl (k4, 21, .inl (fun _ => 0)))] H := hP
  have hD : va_D A [(h0, .inr (1, [.ref q1, .null, .int 0])), (q1, .inr (0, [.ref q2, .int 0])), (q2, .inl (k3, 2000, .inl (fun _ => 0))), (q4, .inl (k4, 21, .inl (fun _ => 0)))] := hD
  have hK : va_K (dC, dI) classes [(k3, .byte), (k4, .int)] s := hK
  refine W.widen (k := 3) (n := 2023) (by omega) (by omega) ?_
  refine va_putF (D := (dC, dI)) (ci := 1) (v := .ref q4) (ty := .array .int) (C := RX1) (T := TX1) (N := 3) hx hb htb iwX1 tyX1 tyX1_ok nmX1 hown hK hP hD hS 0 rfl rfl 1 (by decide) (htb _ mw_47) (fun _ h9 => h9) rfl hin rfl (by decide +kernel) rfl rfl (Nat.le_of_ble_eq_true rfl) dX1_init_20 (fun H locs hP hD hS => ?_)
  have hP : va_P (dC, dI) classes [(h0, .inr (1, [.ref q1, .ref q4, .int 0])), (q1, .inr (0, [.ref q2, .int 0])), (q2, .inl (k3, 2000, .inl (fun _ => 0))), (q4, .inl (k4, 21, .inl (fun _ => 0)))] H := hP
  have hD : va_D A [(h0, .inr (1, [.ref q1, .ref q4, .int 0])), (q1, .inr (0, [.ref q2, .int 0])), (q2, .inl (k3, 2000, .inl (fun _ => 0))), (q4, .inl (k4, 21, .inl (fun _ => 0)))] := hD
  refine lv_aload_n hx hb dX1_init_23 rfl (lv_at hl 0 rfl) ?_
  refine lv_iconst (v := 0) hx hb dX1_init_24 (by decide) ?_
  refine va_put (D := (dC, dI)) (ci := 1) (v := .int 0) (ty := .int) (C := RX1) (T := TX1) (N := 3) hx hb htb iwX1 tyX1 tyX1_ok nmX1 hown hK hP hD hS 0 rfl rfl 2 (by decide) (htb _ mw_48) (fun _ h9 => h9) rfl (by decide +kernel) rfl rfl (Nat.le_of_ble_eq_true rfl) dX1_init_25 (fun H locs hP hD hS => ?_)
  have hP : va_P (dC, dI) classes [(h0, .inr (1, [.ref q1, .ref q4, .int 0])), (q1, .inr (0, [.ref q2, .int 0])), (q2, .inl (k3, 2000, .inl (fun _ => 0))), (q4, .inl (k4, 21, .inl (fun _ => 0)))] H := hP
  have hD : va_D A [(h0, .inr (1, [.ref q1, .ref q4, .int 0])), (q1, .inr (0, [.ref q2, .int 0])), (q2, .inl (k3, 2000, .inl (fun _ => 0))), (q4, .inl (k4, 21, .inl (fun _ => 0)))] := hD
  have hP9 := hP.sub (ws' := [(h0, .inr (1, [.ref q1, .ref q4, .int 0])), (q1, .inr (0, [.ref q2, .int 0])), (q2, .inl (k3, 2000, .inl (fun _ => 0))), (q4, .inl (k4, 21, .inl (fun _ => 0)))]) [0, 1, 2, 3] rfl
  have hD9 := hD.sub (ws' := [(h0, .inr (1, [.ref q1, .ref q4, .int 0])), (q1, .inr (0, [.ref q2, .int 0])), (q2, .inl (k3, 2000, .inl (fun _ => 0))), (q4, .inl (k4, 21, .inl (fun _ => 0)))]) [0, 1, 2, 3] (by decide) rfl
  have hK9 := hK.sub (tys' := [(k3, .byte), (k4, .int)]) [0, 1] rfl
  exact W.vret hx hb hr (fun t ht hW => ⟨⟨(), rfl, trivial, q1, q2, k3, q4, k4, by rw [ht]; exact hP9, va_K.moved hW.alike hK9, hD9⟩, hS.F ht⟩) hS.2.2 dX1_init_28
theorem dX2_init_0 : decode cX2_init 0 = .ok (.aload_n 0, 1) := by decide +kernel
theorem dX2_init_1 : decode cX2_init 1 = .ok (.invokespecial 1, 3) := by decide +kernel
theorem dX2_init_4 : decode cX2_init 4 = .ok (.aload_n 0, 1) := by decide +kernel
theorem dX2_init_5 : decode cX2_init 5 = .ok (.bipush 32, 2) := by decide +kernel
theorem dX2_init_7 : decode cX2_init 7 = .ok (.newarray .int, 2) := by decide +kernel
theorem dX2_init_9 : decode cX2_init 9 = .ok (.putfield 9, 3) := by decide +kernel
theorem dX2_init_12 : decode cX2_init 12 = .ok (.aload_n 0, 1) := by decide +kernel
theorem dX2_init_13 : decode cX2_init 13 = .ok (.bipush 32, 2) := by decide +kernel
theorem dX2_init_15 : decode cX2_init 15 = .ok (.newarray .int, 2) := by decide +kernel
theorem dX2_init_17 : decode cX2_init 17 = .ok (.putfield 13, 3) := by decide +kernel
theorem dX2_init_20 : decode cX2_init 20 = .ok (.aload_n 0, 1) := by decide +kernel
theorem dX2_init_21 : decode cX2_init 21 = .ok (.bipush 32, 2) := by decide +kernel
theorem dX2_init_23 : decode cX2_init 23 = .ok (.newarray .int, 2) := by decide +kernel
theorem dX2_init_25 : decode cX2_init 25 = .ok (.putfield 16, 3) := by decide +kernel
theorem dX2_init_28 : decode cX2_init 28 = .ok (.aload_n 0, 1) := by decide +kernel
theorem dX2_init_29 : decode cX2_init 29 = .ok (.bipush 64, 2) := by decide +kernel
theorem dX2_init_31 : decode cX2_init 31 = .ok (.newarray .int, 2) := by decide +kernel
theorem dX2_init_33 : decode cX2_init 33 = .ok (.putfield 19, 3) := by decide +kernel
theorem dX2_init_36 : decode cX2_init 36 = .ok (.return_, 1) := by decide +kernel
def at_X2_init (dC : Nat → ClassId) (dI : Nat → Nat → Nat) (A : Nat → Prop) (h0 : Nat) (t : State) : Prop := ∃ q1 : Nat, ∃ k1 : ClassId, ∃ q2 : Nat, ∃ k2 : ClassId, ∃ q3 : Nat, ∃ k3 : ClassId, ∃ q4 : Nat, ∃ k4 : ClassId, va_P (dC, dI) classes [(h0, .inr (2, [.ref q1, .ref q2, .ref q3, .ref q4])), (q1, .inl (k1, 32, .inl (fun _ => 0))), (q2, .inl (k2, 32, .inl (fun _ => 0))), (q3, .inl (k3, 32, .inl (fun _ => 0))), (q4, .inl (k4, 64, .inl (fun _ => 0)))] t.heap ∧ va_K (dC, dI) classes [(k1, .int), (k2, .int), (k3, .int), (k4, .int)] t ∧ va_D A [(h0, .inr (2, [.ref q1, .ref q2, .ref q3, .ref q4])), (q1, .inl (k1, 32, .inl (fun _ => 0))), (q2, .inl (k2, 32, .inl (fun _ => 0))), (q3, .inl (k3, 32, .inl (fun _ => 0))), (q4, .inl (k4, 64, .inl (fun _ => 0)))]
set_option maxHeartbeats 4000000 in
set_option maxRecDepth 100000 in
theorem c_X2_init (l : Launch) (dC : Nat → ClassId) (dI : Nat → Nat → Nat) (h0 : Nat) (sz : Nat) : Met l yX2_init (Cond.code yX2_init cX2_init 1 none :: gx_TB) ({ frames := 1, cells := 4, slots := 160, locals := 12 }) (va_Pc [.ref h0] (fun U => U.heap.size = sz ∧ va_P (dC, dI) classes [(h0, .inr (2, [.null, .null, .null, .null]))] U.heap ∧ va_K (dC, dI) classes [] U ∧ va_D (fun _ => True) [(h0, .inr (2, [.null, .null, .null, .null]))])) (va_Qv (fun _ : Unit => True) (fun _ t => at_X2_init dC dI (va_A [(h0, .inr (2, [.null, .null, .null, .null]))] sz) h0 t) (va_A [(h0, .inr (2, [.null, .null, .null, .null]))] sz)) 4 160 (va_A [(h0, .inr (2, [.null, .null, .null, .null]))] sz) := by
  refine Met.ofW (cc := cX2_init) (maxL := 1) (ret := none) (by decide +kernel) rfl ?_
  intro p e s m args below meth c s₁ B hml hv
  obtain ⟨rfl, hsz, hP, hK, hD0⟩ := hv
  have hx := B.exec
  have hb := B.bytes
  have hr := B.returns
  have hts := atoms_spec (ws := Cond.code yX2_init cX2_init 1 none :: gx_TB) B.pre
  have htb : ∀ w ∈ gx_TB, w.before _ s = true := fun w hw => hts w (List.mem_cons_of_mem _ hw)
  have hown : s.vm.findClass RX2 = some m.cls := findClass_of_methodNamed B.named
  have hlocks := B.notSynchronized
  have hin : meth.name = "<init>" := (name_of_methodNamed B.named B.method).1
  subst hsz
  have hD := hD0.self (sz := s.heap.size)
  generalize hAe : va_A [(h0, .inr (2, [.null, .null, .null, .null]))] s.heap.size = A at hD ⊢
  have hA : ∀ q : Nat, s.heap.size ≤ q → A q := fun q h => by rw [← hAe]; exact Or.inr h
  have hS : va_S A s.heap s.heap [] := va_S.rf
  have hP : va_P (dC, dI) classes [(h0, .inr (2, [.null, .null, .null, .null]))] s.heap := hP
  have hl := lv_entry ([.ref h0]) (n := 1) (Nat.le_of_ble_eq_true rfl)
  rw [lg_entry_eq]
  generalize (lg_sl ([.ref h0]) ++ List.replicate (1 - (lg_sl ([.ref h0])).length) Slot.unset).toArray = ls at hl ⊢
  have hl : lv_has ls 1 [(0, .ref h0)] := hl
  refine lv_aload_n hx hb dX2_init_0 rfl (lv_at hl 0 rfl) ?_
  refine W.objInit hx hb hown (htb _ mi_90) (htb _ mi_22) (htb _ mi_23) rfl (by rw [hml]; exact hl.1) rfl dX2_init_1 (Nat.le_of_ble_eq_true rfl) (Nat.le_of_ble_eq_true rfl) ?_
  refine W.eq (g2 := F0 m 4 ls []) rfl ?_
  refine lv_aload_n hx hb dX2_init_4 rfl (lv_at hl 0 rfl) ?_
  refine lv_bipush (v := 32) hx hb dX2_init_5 (by decide) ?_
  refine va_newa (atype := .int) (a0 := (32, .inl (fun _ => 0))) hx hb (htb _ mi_56) (ty := .int) rfl hK hP hD hS hA (N' := 32) (fun _ => rfl) (by decide) (by decide) (by decide) (Nat.le_of_ble_eq_true rfl) (Nat.le_of_ble_eq_true rfl) dX2_init_7 (fun q1 k1 H hK hP hD hS => ?_)
  have hP : va_P (dC, dI) classes [(h0, .inr (2, [.null, .null, .null, .null])), (q1, .inl (k1, 32, .inl (fun _ => 0)))] H := hP
  have hD : va_D A [(h0, .inr (2, [.null, .null, .null, .null])), (q1, .inl (k1, 32, .inl (fun _ => 0)))] := hD
  have hK : va_K (dC, dI) classes [(k1, .int)] s := hK
  refine W.widen (k := 1) (n := 32) (by omega) (by omega) ?_
  refine va_putF (D := (dC, dI)) (ci := 2) (v := .ref q1) (ty := .array .int) (C := RX2) (T := TX2) (N := 4) hx hb htb iwX2 tyX2 tyX2_ok nmX2 hown hK hP hD hS 0 rfl rfl 0 (by decide) (htb _ mw_91) (fun _ h9 => h9) rfl hin rfl (by decide +kernel) rfl rfl (Nat.le_of_ble_eq_true rfl) dX2_init_9 (fun H locs hP hD hS => ?_)
  have hP : va_P (dC, dI) classes [(h0, .inr (2, [.ref q1, .null, .null, .null])), (q1, .inl (k1, 32, .inl (fun _ => 0)))] H := hP
  have hD : va_D A [(h0, .inr (2, [.ref q1, .null, .null, .null])), (q1, .inl (k1, 32, .inl (fun _ => 0)))] := hD
  refine lv_aload_n hx hb dX2_init_12 rfl (lv_at hl 0 rfl) ?_
  refine lv_bipush (v := 32) hx hb dX2_init_13 (by decide) ?_
  refine va_newa (atype := .int) (a0 := (32, .inl (fun _ => 0))) hx hb (htb _ mi_56) (ty := .int) rfl hK hP hD hS hA (N' := 32) (fun _ => rfl) (by decide) (by decide) (by decide) (Nat.le_of_ble_eq_true rfl) (Nat.le_of_ble_eq_true rfl) dX2_init_15 (fun q2 k2 H hK hP hD hS => ?_)
  have hP : va_P (dC, dI) classes [(h0, .inr (2, [.ref q1, .null, .null, .null])), (q1, .inl (k1, 32, .inl (fun _ => 0))), (q2, .inl (k2, 32, .inl (fun _ => 0)))] H := hP
  have hD : va_D A [(h0, .inr (2, [.ref q1, .null, .null, .null])), (q1, .inl (k1, 32, .inl (fun _ => 0))), (q2, .inl (k2, 32, .inl (fun _ => 0)))] := hD
  have hK : va_K (dC, dI) classes [(k1, .int), (k2, .int)] s := hK
  refine W.widen (k := 2) (n := 64) (by omega) (by omega) ?_
  refine va_putF (D := (dC, dI)) (ci := 2) (v := .ref q2) (ty := .array .int) (C := RX2) (T := TX2) (N := 4) hx hb htb iwX2 tyX2 tyX2_ok nmX2 hown hK hP hD hS 0 rfl rfl 1 (by decide) (htb _ mw_92) (fun _ h9 => h9) rfl hin rfl (by decide +kernel) rfl rfl (Nat.le_of_ble_eq_true rfl) dX2_init_17 (fun H locs hP hD hS => ?_)
  have hP : va_P (dC, dI) classes [(h0, .inr (2, [.ref q1, .ref q2, .null, .null])), (q1, .inl (k1, 32, .inl (fun _ => 0))), (q2, .inl (k2, 32, .inl (fun _ => 0)))] H := hP
  have hD : va_D A [(h0, .inr (2, [.ref q1, .ref q2, .null, .null])), (q1, .inl (k1, 32, .inl (fun _ => 0))), (q2, .inl (k2, 32, .inl (fun _ => 0)))] := hD
  refine lv_aload_n hx hb dX2_init_20 rfl (lv_at hl 0 rfl) ?_
  refine lv_bipush (v := 32) hx hb dX2_init_21 (by decide) ?_
  refine va_newa (atype := .int) (a0 := (32, .inl (fun _ => 0))) hx hb (htb _ mi_56) (ty := .int) rfl hK hP hD hS hA (N' := 32) (fun _ => rfl) (by decide) (by decide) (by decide) (Nat.le_of_ble_eq_true rfl) (Nat.le_of_ble_eq_true rfl) dX2_init_23 (fun q3 k3 H hK hP hD hS => ?_)
  have hP : va_P (dC, dI) classes [(h0, .inr (2, [.ref q1, .ref q2, .null, .null])), (q1, .inl (k1, 32, .inl (fun _ => 0))), (q2, .inl (k2, 32, .inl (fun _ => 0))), (q3, .inl (k3, 32, .inl (fun _ => 0)))] H := hP
  have hD : va_D A [(h0, .inr (2, [.ref q1, .ref q2, .null, .null])), (q1, .inl (k1, 32, .inl (fun _ => 0))), (q2, .inl (k2, 32, .inl (fun _ => 0))), (q3, .inl (k3, 32, .inl (fun _ => 0)))] := hD
  have hK : va_K (dC, dI) classes [(k1, .int), (k2, .int), (k3, .int)] s := hK
  refine W.widen (k := 3) (n := 96) (by omega) (by omega) ?_
  refine va_putF (D := (dC, dI)) (ci := 2) (v := .ref q3) (ty := .array .int) (C := RX2) (T := TX2) (N := 4) hx hb htb iwX2 tyX2 tyX2_ok nmX2 hown hK hP hD hS 0 rfl rfl 2 (by decide) (htb _ mw_93) (fun _ h9 => h9) rfl hin rfl (by decide +kernel) rfl rfl (Nat.le_of_ble_eq_true rfl) dX2_init_25 (fun H locs hP hD hS => ?_)
  have hP : va_P (dC, dI) classes [(h0, .inr (2, [.ref q1, .ref q2, .ref q3, .null])), (q1, .inl (k1, 32, .inl (fun _ => 0))), (q2, .inl (k2, 32, .inl (fun _ => 0))), (q3, .inl (k3, 32, .inl (fun _ => 0)))] H := hP
  have hD : va_D A [(h0, .inr (2, [.ref q1, .ref q2, .ref q3, .null])), (q1, .inl (k1, 32, .inl (fun _ => 0))), (q2, .inl (k2, 32, .inl (fun _ => 0))), (q3, .inl (k3, 32, .inl (fun _ => 0)))] := hD
  refine lv_aload_n hx hb dX2_init_28 rfl (lv_at hl 0 rfl) ?_
  refine lv_bipush (v := 64) hx hb dX2_init_29 (by decide) ?_
  refine va_newa (atype := .int) (a0 := (64, .inl (fun _ => 0))) hx hb (htb _ mi_56) (ty := .int) rfl hK hP hD hS hA (N' := 64) (fun _ => rfl) (by decide) (by decide) (by decide) (Nat.le_of_ble_eq_true rfl) (Nat.le_of_ble_eq_true rfl) dX2_init_31 (fun q4 k4 H hK hP hD hS => ?_)
  have hP : va_P (dC, dI) classes [(h0, .inr (2, [.ref q1, .ref q2, .ref q3, .null])), (q1, .inl (k1, 32, .inl (fun _ => 0))), (q2, .inl (k2, 32, .inl (fun _ => 0))), (q3, .inl (k3, 32, .inl (fun _ => 0))), (q4, .inl (k4, 64, .inl (fun _ => 0)))] H := hP
  have hD : va_D A [(h0, .inr (2, [.ref q1, .ref q2, .ref q3, .null])), (q1, .inl (k1, 32, .inl (fun _ => 0))), (q2, .inl (k2, 32, .inl (fun _ => 0))), (q3, .inl (k3, 32, .inl (fun _ => 0))), (q4, .inl (k4, 64, .inl (fun _ => 0)))] := hD
  have hK : va_K (dC, dI) classes [(k1, .int), (k2, .int), (k3, .int), (k4, .int)] s := hK
  refine W.widen (k := 4) (n := 160) (by omega) (by omega) ?_
  refine va_putF (D := (dC, dI)) (ci := 2) (v := .ref q4) (ty := .array .int) (C := RX2) (T := TX2) (N := 4) hx hb htb iwX2 tyX2 tyX2_ok nmX2 hown hK hP hD hS 0 rfl rfl 3 (by decide) (htb _ mw_94) (fun _ h9 => h9) rfl hin rfl (by decide +kernel) rfl rfl (Nat.le_of_ble_eq_true rfl) dX2_init_33 (fun H locs hP hD hS => ?_)
  have hP : va_P (dC, dI) classes [(h0, .inr (2, [.ref q1, .ref q2, .ref q3, .ref q4])), (q1, .inl (k1, 32, .inl (fun _ => 0))), (q2, .inl (k2, 32, .inl (fun _ => 0))), (q3, .inl (k3, 32, .inl (fun _ => 0))), (q4, .inl (k4, 64, .inl (fun _ => 0)))] H := hP
  have hD : va_D A [(h0, .inr (2, [.ref q1, .ref q2, .ref q3, .ref q4])), (q1, .inl (k1, 32, .inl (fun _ => 0))), (q2, .inl (k2, 32, .inl (fun _ => 0))), (q3, .inl (k3, 32, .inl (fun _ => 0))), (q4, .inl (k4, 64, .inl (fun _ => 0)))] := hD
  have hP9 := hP.sub (ws' := [(h0, .inr (2, [.ref q1, .ref q2, .ref q3, .ref q4])), (q1, .inl (k1, 32, .inl (fun _ => 0))), (q2, .inl (k2, 32, .inl (fun _ => 0))), (q3, .inl (k3, 32, .inl (fun _ => 0))), (q4, .inl (k4, 64, .inl (fun _ => 0)))]) [0, 1, 2, 3, 4] rfl
  have hD9 := hD.sub (ws' := [(h0, .inr (2, [.ref q1, .ref q2, .ref q3, .ref q4])), (q1, .inl (k1, 32, .inl (fun _ => 0))), (q2, .inl (k2, 32, .inl (fun _ => 0))), (q3, .inl (k3, 32, .inl (fun _ => 0))), (q4, .inl (k4, 64, .inl (fun _ => 0)))]) [0, 1, 2, 3, 4] (by decide) rfl
  have hK9 := hK.sub (tys' := [(k1, .int), (k2, .int), (k3, .int), (k4, .int)]) [0, 1, 2, 3] rfl
  exact W.vret hx hb hr (fun t ht hW => ⟨⟨(), rfl, trivial, q1, k1, q2, k2, q3, k3, q4, k4, by rw [ht]; exact hP9, va_K.moved hW.alike hK9, hD9⟩, hS.F ht⟩) hS.2.2 dX2_init_36
theorem dX3_init_0 : decode cX3_init 0 = .ok (.aload_n 0, 1) := by decide +kernel
theorem dX3_init_1 : decode cX3_init 1 = .ok (.invokespecial 1, 3) := by decide +kernel
theorem dX3_init_4 : decode cX3_init 4 = .ok (.aload_n 0, 1) := by decide +kernel
theorem dX3_init_5 : decode cX3_init 5 = .ok (.bipush 8, 2) := by decide +kernel
theorem dX3_init_7 : decode cX3_init 7 = .ok (.newarray .int, 2) := by decide +kernel
theorem dX3_init_9 : decode cX3_init 9 = .ok (.putfield 9, 3) := by decide +kernel
theorem dX3_init_12 : decode cX3_init 12 = .ok (.aload_n 0, 1) := by decide +kernel
theorem dX3_init_13 : decode cX3_init 13 = .ok (.bipush 8, 2) := by decide +kernel
theorem dX3_init_15 : decode cX3_init 15 = .ok (.newarray .int, 2) := by decide +kernel
theorem dX3_init_17 : decode cX3_init 17 = .ok (.putfield 13, 3) := by decide +kernel
theorem dX3_init_20 : decode cX3_init 20 = .ok (.aload_n 0, 1) := by decide +kernel
theorem dX3_init_21 : decode cX3_init 21 = .ok (.bipush 64, 2) := by decide +kernel
theorem dX3_init_23 : decode cX3_init 23 = .ok (.newarray .int, 2) := by decide +kernel
theorem dX3_init_25 : decode cX3_init 25 = .ok (.putfield 16, 3) := by decide +kernel
theorem dX3_init_28 : decode cX3_init 28 = .ok (.return_, 1) := by decide +kernel
def at_X3_init (dC : Nat → ClassId) (dI : Nat → Nat → Nat) (A : Nat → Prop) (h0 : Nat) (t : State) : Prop := ∃ q1 : Nat, ∃ k1 : ClassId, ∃ q2 : Nat, ∃ k2 : ClassId, ∃ q3 : Nat, ∃ k3 : ClassId, va_P (dC, dI) classes [(h0, .inr (3, [.ref q1, .ref q2, .ref q3])), (q1, .inl (k1, 8, .inl (fun _ => 0))), (q2, .inl (k2, 8, .inl (fun _ => 0))), (q3, .inl (k3, 64, .inl (fun _ => 0)))] t.heap ∧ va_K (dC, dI) classes [(k1, .int), (k2, .int), (k3, .int)] t ∧ va_D A [(h0, .inr (3, [.ref q1, .ref q2, .ref q3])), (q1, .inl (k1, 8, .inl (fun _ => 0))), (q2, .inl (k2, 8, .inl (fun _ => 0))), (q3, .inl (k3, 64, .inl (fun _ => 0)))]
set_option maxHeartbeats 4000000 in
set_option maxRecDepth 100000 in
theorem c_X3_init (l : Launch) (dC : Nat → ClassId) (dI : Nat → Nat → Nat) (h0 : Nat) (sz : Nat) : Met l yX3_init (Cond.code yX3_init cX3_init 1 none :: gx_TB) ({ frames := 1, cells := 3, slots := 80, locals := 12 }) (va_Pc [.ref h0] (fun U => U.heap.size = sz ∧ va_P (dC, dI) classes [(h0, .inr (3, [.null, .null, .null]))] U.heap ∧ va_K (dC, dI) classes [] U ∧ va_D (fun _ => True) [(h0, .inr (3, [.null, .null, .null]))])) (va_Qv (fun _ : Unit => True) (fun _ t => at_X3_init dC dI (va_A [(h0, .inr (3, [.null, .null, .null]))] sz) h0 t) (va_A [(h0, .inr (3, [.null, .null, .null]))] sz)) 3 80 (va_A [(h0, .inr (3, [.null, .null, .null]))] sz) := by
  refine Met.ofW (cc := cX3_init) (maxL := 1) (ret := none) (by decide +kernel) rfl ?_
  intro p e s m args below meth c s₁ B hml hv
  obtain ⟨rfl, hsz, hP, hK, hD0⟩ := hv
  have hx := B.exec
  have hb := B.bytes
  have hr := B.returns
  have hts := atoms_spec (ws := Cond.code yX3_init cX3_init 1 none :: gx_TB) B.pre
  have htb : ∀ w ∈ gx_TB, w.before _ s = true := fun w hw => hts w (List.mem_cons_of_mem _ hw)
  have hown : s.vm.findClass RX3 = some m.cls := findClass_of_methodNamed B.named
  have hlocks := B.notSynchronized
  have hin : meth.name = "<init>" := (name_of_methodNamed B.named B.method).1
  subst hsz
  have hD := hD0.self (sz := s.heap.size)
  generalize hAe : va_A [(h0, .inr (3, [.null, .null, .null]))] s.heap.size = A at hD ⊢
  have hA : ∀ q : Nat, s.heap.size ≤ q → A q := fun q h => by rw [← hAe]; exact Or.inr h
  have hS : va_S A s.heap s.heap [] := va_S.rf
  have hP : va_P (dC, dI) classes [(h0, .inr (3, [.null, .null, .null]))] s.heap := hP
  have hl := lv_entry ([.ref h0]) (n := 1) (Nat.le_of_ble_eq_true rfl)
  rw [lg_entry_eq]
  generalize (lg_sl ([.ref h0]) ++ List.replicate (1 - (lg_sl ([.ref h0])).length) Slot.unset).toArray = ls at hl ⊢
  have hl : lv_has ls 1 [(0, .ref h0)] := hl
  refine lv_aload_n hx hb dX3_init_0 rfl (lv_at hl 0 rfl) ?_
  refine W.objInit hx hb hown (htb _ mi_74) (htb _ mi_22) (htb _ mi_23) rfl (by rw [hml]; exact hl.1) rfl dX3_init_1 (Nat.le_of_ble_eq_true rfl) (Nat.le_of_ble_eq_true rfl) ?_
  refine W.eq (g2 := F0 m 4 ls []) rfl ?_
  refine lv_aload_n hx hb dX3_init_4 rfl (lv_at hl 0 rfl) ?_
  refine lv_bipush (v := 8) hx hb dX3_init_5 (by decide) ?_
  refine va_newa (atype := .int) (a0 := (8, .inl (fun _ => 0))) hx hb (htb _ mi_56) (ty := .int) rfl hK hP hD hS hA (N' := 8) (fun _ => rfl) (by decide) (by decide) (by decide) (Nat.le_of_ble_eq_true rfl) (Nat.le_of_ble_eq_true rfl) dX3_init_7 (fun q1 k1 H hK hP hD hS => ?_)
  have hP : va_P (dC, dI) classes [(h0, .inr (3, [.null, .null, .null])), (q1, .inl (k1, 8, .inl (fun _ => 0)))] H := hP
  have hD : va_D A [(h0, .inr (3, [.null, .null, .null])), (q1, .inl (k1, 8, .inl (fun _ => 0)))] := hD
  have hK : va_K (dC, dI) classes [(k1, .int)] s := hK
  refine W.widen (k := 1) (n := 8) (by omega) (by omega) ?_
  refine va_putF (D := (dC, dI)) (ci := 3) (v := .ref q1) (ty := .array .int) (C := RX3) (T := TX3) (N := 3) hx hb htb iwX3 tyX3 tyX3_ok nmX3 hown hK hP hD hS 0 rfl rfl 0 (by decide) (htb _ mw_75) (fun _ h9 => h9) rfl hin rfl (by decide +kernel) rfl rfl (Nat.le_of_ble_eq_true rfl) dX3_init_9 (fun H locs hP hD hS => ?_)
  have hP : va_P (dC, dI) classes [(h0, .inr (3, [.ref q1, .null, .null])), (q1, .inl (k1, 8, .inl (fun _ => 0)))] H := hP
  have hD : va_D A [(h0, .inr (3, [.ref q1, .null, .null])), (q1, .inl (k1, 8, .inl (fun _ => 0)))] := hD
  refine lv_aload_n hx hb dX3_init_12 rfl (lv_at hl 0 rfl) ?_
  refine lv_bipush (v := 8) hx hb dX3_init_13 (by decide) ?_
  refine va_newa (atype := .int) (a0 := (8, .inl (fun _ => 0))) hx hb (htb _ mi_56) (ty := .int) rfl hK hP hD hS hA (N' := 8) (fun _ => rfl) (by decide) (by decide) (by decide) (Nat.le_of_ble_eq_true rfl) (Nat.le_of_ble_eq_true rfl) dX3_init_15 (fun q2 k2 H hK hP hD hS => ?_)
  have hP : va_P (dC, dI) classes [(h0, .inr (3, [.ref q1, .null, .null])), (q1, .inl (k1, 8, .inl (fun _ => 0))), (q2, .inl (k2, 8, .inl (fun _ => 0)))] H := hP
  have hD : va_D A [(h0, .inr (3, [.ref q1, .null, .null])), (q1, .inl (k1, 8, .inl (fun _ => 0))), (q2, .inl (k2, 8, .inl (fun _ => 0)))] := hD
  have hK : va_K (dC, dI) classes [(k1, .int), (k2, .int)] s := hK
  refine W.widen (k := 2) (n := 16) (by omega) (by omega) ?_
  refine va_putF (D := (dC, dI)) (ci := 3) (v := .ref q2) (ty := .array .int) (C := RX3) (T := TX3) (N := 3) hx hb htb iwX3 tyX3 tyX3_ok nmX3 hown hK hP hD hS 0 rfl rfl 1 (by decide) (htb _ mw_76) (fun _ h9 => h9) rfl hin rfl (by decide +kernel) rfl rfl (Nat.le_of_ble_eq_true rfl) dX3_init_17 (fun H locs hP hD hS => ?_)
  have hP : va_P (dC, dI) classes [(h0, .inr (3, [.ref q1, .ref q2, .null])), (q1, .inl (k1, 8, .inl (fun _ => 0))), (q2, .inl (k2, 8, .inl (fun _ => 0)))] H := hP
  have hD : va_D A [(h0, .inr (3, [.ref q1, .ref q2, .null])), (q1, .inl (k1, 8, .inl (fun _ => 0))), (q2, .inl (k2, 8, .inl (fun _ => 0)))] := hD
  refine lv_aload_n hx hb dX3_init_20 rfl (lv_at hl 0 rfl) ?_
  refine lv_bipush (v := 64) hx hb dX3_init_21 (by decide) ?_
  refine va_newa (atype := .int) (a0 := (64, .inl (fun _ => 0))) hx hb (htb _ mi_56) (ty := .int) rfl hK hP hD hS hA (N' := 64) (fun _ => rfl) (by decide) (by decide) (by decide) (Nat.le_of_ble_eq_true rfl) (Nat.le_of_ble_eq_true rfl) dX3_init_23 (fun q3 k3 H hK hP hD hS => ?_)
  have hP : va_P (dC, dI) classes [(h0, .inr (3, [.ref q1, .ref q2, .null])), (q1, .inl (k1, 8, .inl (fun _ => 0))), (q2, .inl (k2, 8, .inl (fun _ => 0))), (q3, .inl (k3, 64, .inl (fun _ => 0)))] H := hP
  have hD : va_D A [(h0, .inr (3, [.ref q1, .ref q2, .null])), (q1, .inl (k1, 8, .inl (fun _ => 0))), (q2, .inl (k2, 8, .inl (fun _ => 0))), (q3, .inl (k3, 64, .inl (fun _ => 0)))] := hD
  have hK : va_K (dC, dI) classes [(k1, .int), (k2, .int), (k3, .int)] s := hK
  refine W.widen (k := 3) (n := 80) (by omega) (by omega) ?_
  refine va_putF (D := (dC, dI)) (ci := 3) (v := .ref q3) (ty := .array .int) (C := RX3) (T := TX3) (N := 3) hx hb htb iwX3 tyX3 tyX3_ok nmX3 hown hK hP hD hS 0 rfl rfl 2 (by decide) (htb _ mw_77) (fun _ h9 => h9) rfl hin rfl (by decide +kernel) rfl rfl (Nat.le_of_ble_eq_true rfl) dX3_init_25 (fun H locs hP hD hS => ?_)
  have hP : va_P (dC, dI) classes [(h0, .inr (3, [.ref q1, .ref q2, .ref q3])), (q1, .inl (k1, 8, .inl (fun _ => 0))), (q2, .inl (k2, 8, .inl (fun _ => 0))), (q3, .inl (k3, 64, .inl (fun _ => 0)))] H := hP
  have hD : va_D A [(h0, .inr (3, [.ref q1, .ref q2, .ref q3])), (q1, .inl (k1, 8, .inl (fun _ => 0))), (q2, .inl (k2, 8, .inl (fun _ => 0))), (q3, .inl (k3, 64, .inl (fun _ => 0)))] := hD
  have hP9 := hP.sub (ws' := [(h0, .inr (3, [.ref q1, .ref q2, .ref q3])), (q1, .inl (k1, 8, .inl (fun _ => 0))), (q2, .inl (k2, 8, .inl (fun _ => 0))), (q3, .inl (k3, 64, .inl (fun _ => 0)))]) [0, 1, 2, 3] rfl
  have hD9 := hD.sub (ws' := [(h0, .inr (3, [.ref q1, .ref q2, .ref q3])), (q1, .inl (k1, 8, .inl (fun _ => 0))), (q2, .inl (k2, 8, .inl (fun _ => 0))), (q3, .inl (k3, 64, .inl (fun _ => 0)))]) [0, 1, 2, 3] (by decide) rfl
  have hK9 := hK.sub (tys' := [(k1, .int), (k2, .int), (k3, .int)]) [0, 1, 2] rfl
  exact W.vret hx hb hr (fun t ht hW => ⟨⟨(), rfl, trivial, q1, k1, q2, k2, q3, k3, by rw [ht]; exact hP9, va_K.moved hW.alike hK9, hD9⟩, hS.F ht⟩) hS.2.2 dX3_init_28
theorem dX5_init_0 : decode cX5_init 0 = .ok (.aload_n 0, 1) := by decide +kernel
theorem dX5_init_1 : decode cX5_init 1 = .ok (.invokespecial 3, 3) := by decide +kernel
theorem dX5_init_4 : decode cX5_init 4 = .ok (.aload_n 0, 1) := by decide +kernel
theorem dX5_init_5 : decode cX5_init 5 = .ok (.new 9, 3) := by decide +kernel
theorem dX5_init_8 : decode cX5_init 8 = .ok (.dup, 1) := by decide +kernel
theorem dX5_init_9 : decode cX5_init 9 = .ok (.invokespecial 11, 3) := by decide +kernel
theorem dX5_init_12 : decode cX5_init 12 = .ok (.putfield 12, 3) := by decide +kernel
theorem dX5_init_15 : decode cX5_init 15 = .ok (.return_, 1) := by decide +kernel
def at_X5_init (dC : Nat → ClassId) (dI : Nat → Nat → Nat) (A : Nat → Prop) (h0 : Nat) (t : State) : Prop := ∃ q1 : Nat, ∃ q2 : Nat, ∃ k3 : ClassId, va_P (dC, dI) classes [(h0, .inr (4, [.ref q1])), (q1, .inr (0, [.ref q2, .int 0])), (q2, .inl (k3, 2000, .inl (fun _ => 0)))] t.heap ∧ va_K (dC, dI) classes [(k3, .byte)] t ∧ va_D A [(h0, .inr (4, [.ref q1])), (q1, .inr (0, [.ref q2, .int 0])), (q2, .inl (k3, 2000, .inl (fun _ => 0)))]
set_option maxHeartbeats 4000000 in
set_option maxRecDepth 100000 in
theorem c_X5_init (l : Launch) (dC : Nat → ClassId) (dI : Nat → Nat → Nat) (h0 : Nat) (sz : Nat) : Met l yX5_init (Cond.code yX5_init cX5_init 1 none :: gx_TB) ({ frames := 2, cells := 2, slots := 2002, locals := 32 }) (va_Pc [.ref h0] (fun U => U.heap.size = sz ∧ va_P (dC, dI) classes [(h0, .inr (4, [.null]))] U.heap ∧ va_K (dC, dI) classes [] U ∧ va_D (fun _ => True) [(h0, .inr (4, [.null]))])) (va_Qv (fun _ : Unit => True) (fun _ t => at_X5_init dC dI (va_A [(h0, .inr (4, [.null]))] sz) h0 t) (va_A [(h0, .inr (4, [.null]))] sz)) 2 2002 (va_A [(h0, .inr (4, [.null]))] sz) := by
  refine Met.ofW (cc := cX5_init) (maxL := 1) (ret := none) (by decide +kernel) rfl ?_
  intro p e s m args below meth c s₁ B hml hv
  obtain ⟨rfl, hsz, hP, hK, hD0⟩ := hv
  have hx := B.exec
  have hb := B.bytes
  have hr := B.returns
  have hts := atoms_spec (ws := Cond.code yX5_init cX5_init 1 none :: gx_TB) B.pre
  have htb : ∀ w ∈ gx_TB, w.before _ s = true := fun w hw => hts w (List.mem_cons_of_mem _ hw)
  have hown : s.vm.findClass RX5 = some m.cls := findClass_of_methodNamed B.named
  have hlocks := B.notSynchronized
  have hin : meth.name = "<init>" := (name_of_methodNamed B.named B.method).1
  subst hsz
  have hD := hD0.self (sz := s.heap.size)
  generalize hAe : va_A [(h0, .inr (4, [.null]))] s.heap.size = A at hD ⊢
  have hA : ∀ q : Nat, s.heap.size ≤ q → A q := fun q h => by rw [← hAe]; exact Or.inr h
  have hS : va_S A s.heap s.heap [] := va_S.rf
  have hP : va_P (dC, dI) classes [(h0, .inr (4, [.null]))] s.heap := hP
  have hl := lv_entry ([.ref h0]) (n := 1) (Nat.le_of_ble_eq_true rfl)
  rw [lg_entry_eq]
  generalize (lg_sl ([.ref h0]) ++ List.replicate (1 - (lg_sl ([.ref h0])).length) Slot.unset).toArray = ls at hl ⊢
  have hl : lv_has ls 1 [(0, .ref h0)] := hl
  refine lv_aload_n hx hb dX5_init_0 rfl (lv_at hl 0 rfl) ?_
  refine W.objInit hx hb hown (htb _ mi_62) (htb _ mi_22) (htb _ mi_23) rfl (by rw [hml]; exact hl.1) rfl dX5_init_1 (Nat.le_of_ble_eq_true rfl) (Nat.le_of_ble_eq_true rfl) ?_
  refine W.eq (g2 := F0 m 4 ls []) rfl ?_
  refine lv_aload_n hx hb dX5_init_4 rfl (lv_at hl 0 rfl) ?_
  refine va_new (ci := 0) (fs := [.null, .int 0]) (C := RX0) (T := TX0) (N := 2) hx hb htb iwX0 tyX0 tyX0_ok hown (htb _ mi_63) (htb _ mi_25) (htb _ mw_2) hK hP hD hS hA rfl (fun j hj => by rcases (show j = 0 ∨ j = 1 by omega) with rfl | rfl <;> rfl) (Nat.le_of_ble_eq_true rfl) (Nat.le_of_ble_eq_true rfl) dX5_init_5 (fun q1 H hP hD hS => ?_)
  have hP : va_P (dC, dI) classes [(h0, .inr (4, [.null])), (q1, .inr (0, [.null, .int 0]))] H := hP
  have hD : va_D A [(h0, .inr (4, [.null])), (q1, .inr (0, [.null, .int 0]))] := hD
  refine W.widen (k := 1) (n := 2) (by omega) (by omega) ?_
  refine lv_dup hx hb dX5_init_8 rfl ?_
  have hPc := hP.sub (ws' := [(q1, .inr (0, [.null, .int 0]))]) [1] rfl
  have hDc := hD.sub (ws' := [(q1, .inr (0, [.null, .int 0]))]) [1] (by decide) rfl
  have hKc := hK.sub (tys' := []) [] rfl
  have hFc := va_free (wc := [(q1, .inr (0, [.null, .int 0]))]) hD hS hA [1] rfl
  refine va_callv (va_runI (As := []) (rest := [.ref q1, .ref h0]) ⟨hx, hb, hml, hown, htb⟩ (c_X0_init l dC dI q1 H.size) (cwI 0 htb (gx_goodT mi_28) rfl rfl rfl (htb _ mw_2) (htb _ mi_64) (htb _ mi_27) rfl (by decide +kernel) ⟨Nat.le_of_ble_eq_true rfl, Nat.le_of_ble_eq_true rfl⟩) ⟨fun a U g mk q => by obtain ⟨q0, q1, qP, qK, qD⟩ := q; exact ⟨q0, q1, qP, va_K.moved (u := U) (U := U.calling g mk a) (Vm.Alike.refl U.vm) qK, qD⟩, fun U hU hW => ⟨rfl, by rw [hU], by rw [hU]; exact hPc, va_K.moved hW.alike hKc, hDc.weaken (fun _ _ _ _ => trivial)⟩⟩ rfl rfl hl.1 rfl (lv_room (Nat.le_of_ble_eq_true rfl)) dX5_init_9 ⟨Nat.le_of_ble_eq_true rfl, Nat.le_of_ble_eq_true rfl⟩) hS (fun q _ h => hFc q h) hFc (fun u t H1 locs ht hvm hw hB hz1 hk1 hS => ?_)
  obtain ⟨q2, k3, hP1, hK1, hD1⟩ := hB
  rw [ht] at hP1
  have hK1 := va_K.moved hvm.symm hK1
  obtain ⟨hP, hD⟩ := va_join (wr := [(h0, .inr (4, [.null]))]) (w1 := [(q1, .inr (0, [.ref q2, .int 0])), (q2, .inl (k3, 2000, .inl (fun _ => 0)))]) hP hD [1] [0] rfl rfl (by decide) (by decide) hk1 hFc hP1 hD1
  have hK := (hK.sub (tys' := []) [] rfl).app hK1
  generalize H1 = H at hP hS ⊢
  have hP : va_P (dC, dI) classes [(h0, .inr (4, [.null])), (q1, .inr (0, [.ref q2, .int 0])), (q2, .inl (k3, 2000, .inl (fun _ => 0)))] H := hP
  have hD : va_D A [(h0, .inr (4, [.null])), (q1, .inr (0, [.ref q2, .int 0])), (q2, .inl (k3, 2000, .inl (fun _ => 0)))] := hD
  have hK : va_K (dC, dI) classes [(k3, .byte)] s := hK
  refine W.widen (k := 2) (n := 2002) (by omega) (by omega) ?_
  refine va_putF (D := (dC, dI)) (ci := 4) (v := .ref q1) (ty := .object "PlainSeal$Bytes") (C := RX5) (T := TX5) (N := 1) hx hb htb iwX5 tyX5 tyX5_ok nmX5 hown hK hP hD hS 0 rfl rfl 0 (by decide) (htb _ mw_65) (fun _ h9 => h9) rfl hin rfl (by decide +kernel) rfl rfl (Nat.le_of_ble_eq_true rfl) dX5_init_12 (fun H locs hP hD hS => ?_)
  have hP : va_P (dC, dI) classes [(h0, .inr (4, [.ref q1])), (q1, .inr (0, [.ref q2, .int 0])), (q2, .inl (k3, 2000, .inl (fun _ => 0)))] H := hP
  have hD : va_D A [(h0, .inr (4, [.ref q1])), (q1, .inr (0, [.ref q2, .int 0])), (q2, .inl (k3, 2000, .inl (fun _ => 0)))] := hD
  have hP9 := hP.sub (ws' := [(h0, .inr (4, [.ref q1])), (q1, .inr (0, [.ref q2, .int 0])), (q2, .inl (k3, 2000, .inl (fun _ => 0)))]) [0, 1, 2] rfl
  have hD9 := hD.sub (ws' := [(h0, .inr (4, [.ref q1])), (q1, .inr (0, [.ref q2, .int 0])), (q2, .inl (k3, 2000, .inl (fun _ => 0)))]) [0, 1, 2] (by decide) rfl
  have hK9 := hK.sub (tys' := [(k3, .byte)]) [0] rfl
  exact W.vret hx hb hr (fun t ht hW => ⟨⟨(), rfl, trivial, q1, q2, k3, by rw [ht]; exact hP9, va_K.moved hW.alike hK9, hD9⟩, hS.F ht⟩) hS.2.2 dX5_init_15
theorem dX6_init_0 : decode cX6_init 0 = .ok (.aload_n 0, 1) := by decide +kernel
theorem dX6_init_1 : decode cX6_init 1 = .ok (.invokespecial 1, 3) := by decide +kernel
theorem dX6_init_4 : decode cX6_init 4 = .ok (.aload_n 0, 1) := by decide +kernel
theorem dX6_init_5 : decode cX6_init 5 = .ok (.new 7, 3) := by decide +kernel
theorem dX6_init_8 : decode cX6_init 8 = .ok (.dup, 1) := by decide +kernel
theorem dX6_init_9 : decode cX6_init 9 = .ok (.invokespecial 9, 3) := by decide +kernel
theorem dX6_init_12 : decode cX6_init 12 = .ok (.putfield 10, 3) := by decide +kernel
theorem dX6_init_15 : decode cX6_init 15 = .ok (.aload_n 0, 1) := by decide +kernel
theorem dX6_init_16 : decode cX6_init 16 = .ok (.new 7, 3) := by decide +kernel
theorem dX6_init_19 : decode cX6_init 19 = .ok (.dup, 1) := by decide +kernel
theorem dX6_init_20 : decode cX6_init 20 = .ok (.invokespecial 9, 3) := by decide +kernel
theorem dX6_init_23 : decode cX6_init 23 = .ok (.putfield 16, 3) := by decide +kernel
theorem dX6_init_26 : decode cX6_init 26 = .ok (.aload_n 0, 1) := by decide +kernel
theorem dX6_init_27 : decode cX6_init 27 = .ok (.new 19, 3) := by decide +kernel
theorem dX6_init_30 : decode cX6_init 30 = .ok (.dup, 1) := by decide +kernel
theorem dX6_init_31 : decode cX6_init 31 = .ok (.invokespecial 21, 3) := by decide +kernel
theorem dX6_init_34 : decode cX6_init 34 = .ok (.putfield 22, 3) := by decide +kernel
theorem dX6_init_37 : decode cX6_init 37 = .ok (.aload_n 0, 1) := by decide +kernel
theorem dX6_init_38 : decode cX6_init 38 = .ok (.new 26, 3) := by decide +kernel
theorem dX6_init_41 : decode cX6_init 41 = .ok (.dup, 1) := by decide +kernel
theorem dX6_init_42 : decode cX6_init 42 = .ok (.invokespecial 28, 3) := by decide +kernel
theorem dX6_init_45 : decode cX6_init 45 = .ok (.putfield 29, 3) := by decide +kernel
theorem dX6_init_48 : decode cX6_init 48 = .ok (.aload_n 0, 1) := by decide +kernel
theorem dX6_init_49 : decode cX6_init 49 = .ok (.new 33, 3) := by decide +kernel
theorem dX6_init_52 : decode cX6_init 52 = .ok (.dup, 1) := by decide +kernel
theorem dX6_init_53 : decode cX6_init 53 = .ok (.invokespecial 35, 3) := by decide +kernel
theorem dX6_init_56 : decode cX6_init 56 = .ok (.putfield 36, 3) := by decide +kernel
theorem dX6_init_59 : decode cX6_init 59 = .ok (.aload_n 0, 1) := by decide +kernel
theorem dX6_init_60 : decode cX6_init 60 = .ok (.new 40, 3) := by decide +kernel
theorem dX6_init_63 : decode cX6_init 63 = .ok (.dup, 1) := by decide +kernel
theorem dX6_init_64 : decode cX6_init 64 = .ok (.invokespecial 42, 3) := by decide +kernel
theorem dX6_init_67 : decode cX6_init 67 = .ok (.putfield 43, 3) := by decide +kernel
theorem dX6_init_70 : decode cX6_init 70 = .ok (.return_, 1) := by decide +kernel
def at_X6_init (dC : Nat → ClassId) (dI : Nat → Nat → Nat) (A : Nat → Prop) (h0 : Nat) (t : State) : Prop := ∃ q1 : Nat, ∃ q2 : Nat, ∃ k3 : ClassId, ∃ q4 : Nat, ∃ q5 : Nat, ∃ k6 : ClassId, ∃ q7 : Nat, ∃ q8 : Nat, ∃ q9 : Nat, ∃ k10 : ClassId, ∃ q11 : Nat, ∃ k12 : ClassId, ∃ q13 : Nat, ∃ q14 : Nat, ∃ q15 : Nat, ∃ k16 : ClassId, ∃ q17 : Nat, ∃ q18 : Nat, ∃ k19 : ClassId, ∃ q20 : Nat, ∃ k21 : ClassId, ∃ q22 : Nat, ∃ k23 : ClassId, ∃ q24 : Nat, ∃ q25 : Nat, ∃ k26 : ClassId, ∃ q27 : Nat, ∃ k28 : ClassId, ∃ q29 : Nat, ∃ k30 : ClassId, ∃ q31 : Nat, ∃ k32 : ClassId, va_P (dC, dI) classes [(h0, .inr (5, [.ref q1, .ref q4, .ref q7, .ref q13, .ref q17, .ref q24])), (q1, .inr (0, [.ref q2, .int 0])), (q2, .inl (k3, 2000, .inl (fun _ => 0))), (q4, .inr (0, [.ref q5, .int 0])), (q5, .inl (k6, 2000, .inl (fun _ => 0))), (q7, .inr (1, [.ref q8, .ref q11, .int 0])), (q8, .inr (0, [.ref q9, .int 0])), (q9, .inl (k10, 2000, .inl (fun _ => 0))), (q11, .inl (k12, 21, .inl (fun _ => 0))), (q13, .inr (4, [.ref q14])), (q14, .inr (0, [.ref q15, .int 0])), (q15, .inl (k16, 2000, .inl (fun _ => 0))), (q17, .inr (3, [.ref q18, .ref q20, .ref q22])), (q18, .inl (k19, 8, .inl (fun _ => 0))), (q20, .inl (k21, 8, .inl (fun _ => 0))), (q22, .inl (k23, 64, .inl (fun _ => 0))), (q24, .inr (2, [.ref q25, .ref q27, .ref q29, .ref q31])), (q25, .inl (k26, 32, .inl (fun _ => 0))), (q27, .inl (k28, 32, .inl (fun _ => 0))), (q29, .inl (k30, 32, .inl (fun _ => 0))), (q31, .inl (k32, 64, .inl (fun _ => 0)))] t.heap ∧ va_K (dC, dI) classes [(k3, .byte), (k6, .byte), (k10, .byte), (k12, .int), (k16, .byte), (k19, .int), (k21, .int), (k23, .int), (k26, .int), (k28, .int), (k30, .int), (k32, .int)] t ∧ va_D A [(h0, .inr (5, [.ref q1, .ref q4, .ref q7, .ref q13, .ref q17, .ref q24])), (q1, .inr (0, [.ref q2, .int 0])), (q2, .inl (k3, 2000, .inl (fun _ => 0))), (q4, .inr (0, [.ref q5, .int 0])), (q5, .inl (k6, 2000, .inl (fun _ => 0))), (q7, .inr (1, [.ref q8, .ref q11, .int 0])), (q8, .inr (0, [.ref q9, .int 0])), (q9, .inl (k10, 2000, .inl (fun _ => 0))), (q11, .inl (k12, 21, .inl (fun _ => 0))), (q13, .inr (4, [.ref q14])), (q14, .inr (0, [.ref q15, .int 0])), (q15, .inl (k16, 2000, .inl (fun _ => 0))), (q17, .inr (3, [.ref q18, .ref q20, .ref q22])), (q18, .inl (k19, 8, .inl (fun _ => 0))), (q20, .inl (k21, 8, .inl (fun _ => 0))), (q22, .inl (k23, 64, .inl (fun _ => 0))), (q24, .inr (2, [.ref q25, .ref q27, .ref q29, .ref q31])), (q25, .inl (k26, 32, .inl (fun _ => 0))), (q27, .inl (k28, 32, .inl (fun _ => 0))), (q29, .inl (k30, 32, .inl (fun _ => 0))), (q31, .inl (k32, 64, .inl (fun _ => 0)))]
set_option maxHeartbeats 4000000 in
set_option maxRecDepth 100000 in
theorem c_X6_init (l : Launch) (dC : Nat → ClassId) (dI : Nat → Nat → Nat) (h0 : Nat) (sz : Nat) : Met l yX6_init (Cond.code yX6_init cX6_init 1 none :: gx_TB) ({ frames := 3, cells := 20, slots := 8280, locals := 52 }) (va_Pc [.ref h0] (fun U => U.heap.size = sz ∧ va_P (dC, dI) classes [(h0, .inr (5, [.null, .null, .null, .null, .null, .null]))] U.heap ∧ va_K (dC, dI) classes [] U ∧ va_D (fun _ => True) [(h0, .inr (5, [.null, .null, .null, .null, .null, .null]))])) (va_Qv (fun _ : Unit => True) (fun _ t => at_X6_init dC dI (va_A [(h0, .inr (5, [.null, .null, .null, .null, .null, .null]))] sz) h0 t) (va_A [(h0, .inr (5, [.null, .null, .null, .null, .null, .null]))] sz)) 20 8280 (va_A [(h0, .inr (5, [.null, .null, .null, .null, .null, .null]))] sz) := by
  refine Met.ofW (cc := cX6_init) (maxL := 1) (ret := none) (by decide +kernel) rfl ?_
  intro p e s m args below meth c s₁ B hml hv
  obtain ⟨rfl, hsz, hP, hK, hD0⟩ := hv
  have hx := B.exec
  have hb := B.bytes
  have hr := B.returns
  have hts := atoms_spec (ws := Cond.code yX6_init cX6_init 1 none :: gx_TB) B.pre
  have htb : ∀ w ∈ gx_TB, w.before _ s = true := fun w hw => hts w (List.mem_cons_of_mem _ hw)
  have hown : s.vm.findClass RX6 = some m.cls := findClass_of_methodNamed B.named
  have hlocks := B.notSynchronized
  have hin : meth.name = "<init>" := (name_of_methodNamed B.named B.method).1
  subst hsz
  have hD := hD0.self (sz := s.heap.size)
  generalize hAe : va_A [(h0, .inr (5, [.null, .null, .null, .null, .null, .null]))] s.heap.size = A at hD ⊢
  have hA : ∀ q : Nat, s.heap.size ≤ q → A q := fun q h => by rw [← hAe]; exact Or.inr h
  have hS : va_S A s.heap s.heap [] := va_S.rf
  have hP : va_P (dC, dI) classes [(h0, .inr (5, [.null, .null, .null, .null, .null, .null]))] s.heap := hP
  have hl := lv_entry ([.ref h0]) (n := 1) (Nat.le_of_ble_eq_true rfl)
  rw [lg_entry_eq]
  generalize (lg_sl ([.ref h0]) ++ List.replicate (1 - (lg_sl ([.ref h0])).length) Slot.unset).toArray = ls at hl ⊢
  have hl : lv_has ls 1 [(0, .ref h0)] := hl
  refine lv_aload_n hx hb dX6_init_0 rfl (lv_at hl 0 rfl) ?_
  refine W.objInit hx hb hown (htb _ mi_21) (htb _ mi_22) (htb _ mi_23) rfl (by rw [hml]; exact hl.1) rfl dX6_init_1 (Nat.le_of_ble_eq_true rfl) (Nat.le_of_ble_eq_true rfl) ?_
  refine W.eq (g2 := F0 m 4 ls []) rfl ?_
  refine lv_aload_n hx hb dX6_init_4 rfl (lv_at hl 0 rfl) ?_
  refine va_new (ci := 0) (fs := [.null, .int 0]) (C := RX0) (T := TX0) (N := 2) hx hb htb iwX0 tyX0 tyX0_ok hown (htb _ mi_24) (htb _ mi_25) (htb _ mw_2) hK hP hD hS hA rfl (fun j hj => by rcases (show j = 0 ∨ j = 1 by omega) with rfl | rfl <;> rfl) (Nat.le_of_ble_eq_true rfl) (Nat.le_of_ble_eq_true rfl) dX6_init_5 (fun q1 H hP hD hS => ?_)
  have hP : va_P (dC, dI) classes [(h0, .inr (5, [.null, .null, .null, .null, .null, .null])), (q1, .inr (0, [.null, .int 0]))] H := hP
  have hD : va_D A [(h0, .inr (5, [.null, .null, .null, .null, .null, .null])), (q1, .inr (0, [.null, .int 0]))] := hD
  refine W.widen (k := 1) (n := 2) (by omega) (by omega) ?_
  refine lv_dup hx hb dX6_init_8 rfl ?_
  have hPc := hP.sub (ws' := [(q1, .inr (0, [.null, .int 0]))]) [1] rfl
  have hDc := hD.sub (ws' := [(q1, .inr (0, [.null, .int 0]))]) [1] (by decide) rfl
  have hKc := hK.sub (tys' := []) [] rfl
  have hFc := va_free (wc := [(q1, .inr (0, [.null, .int 0]))]) hD hS hA [1] rfl
  refine va_callv (va_runI (As := []) (rest := [.ref q1, .ref h0]) ⟨hx, hb, hml, hown, htb⟩ (c_X0_init l dC dI q1 H.size) (cwI 0 htb (gx_goodT mi_28) rfl rfl rfl (htb _ mw_2) (htb _ mi_26) (htb _ mi_27) rfl (by decide +kernel) ⟨Nat.le_of_ble_eq_true rfl, Nat.le_of_ble_eq_true rfl⟩) ⟨fun a U g mk q => by obtain ⟨q0, q1, qP, qK, qD⟩ := q; exact ⟨q0, q1, qP, va_K.moved (u := U) (U := U.calling g mk a) (Vm.Alike.refl U.vm) qK, qD⟩, fun U hU hW => ⟨rfl, by rw [hU], by rw [hU]; exact hPc, va_K.moved hW.alike hKc, hDc.weaken (fun _ _ _ _ => trivial)⟩⟩ rfl rfl hl.1 rfl (lv_room (Nat.le_of_ble_eq_true rfl)) dX6_init_9 ⟨Nat.le_of_ble_eq_true rfl, Nat.le_of_ble_eq_true rfl⟩) hS (fun q _ h => hFc q h) hFc (fun u t H1 locs ht hvm hw hB hz1 hk1 hS => ?_)
  obtain ⟨q2, k3, hP1, hK1, hD1⟩ := hB
  rw [ht] at hP1
  have hK1 := va_K.moved hvm.symm hK1
  obtain ⟨hP, hD⟩ := va_join (wr := [(h0, .inr (5, [.null, .null, .null, .null, .null, .null]))]) (w1 := [(q1, .inr (0, [.ref q2, .int 0])), (q2, .inl (k3, 2000, .inl (fun _ => 0)))]) hP hD [1] [0] rfl rfl (by decide) (by decide) hk1 hFc hP1 hD1
  have hK := (hK.sub (tys' := []) [] rfl).app hK1
  generalize H1 = H at hP hS ⊢
  have hP : va_P (dC, dI) classes [(h0, .inr (5, [.null, .null, .null, .null, .null, .null])), (q1, .inr (0, [.ref q2, .int 0])), (q2, .inl (k3, 2000, .inl (fun _ => 0)))] H := hP
  have hD : va_D A [(h0, .inr (5, [.null, .null, .null, .null, .null, .null])), (q1, .inr (0, [.ref q2, .int 0])), (q2, .inl (k3, 2000, .inl (fun _ => 0)))] := hD
  have hK : va_K (dC, dI) classes [(k3, .byte)] s := hK
  refine W.widen (k := 2) (n := 2002) (by omega) (by omega) ?_
  refine va_putF (D := (dC, dI)) (ci := 5) (v := .ref q1) (ty := .object "PlainSeal$Bytes") (C := RX6) (T := TX6) (N := 6) hx hb htb iwX6 tyX6 tyX6_ok nmX6 hown hK hP hD hS 0 rfl rfl 0 (by decide) (htb _ mw_104) (fun _ h9 => h9) rfl hin rfl (by decide +kernel) rfl rfl (Nat.le_of_ble_eq_true rfl) dX6_init_12 (fun H locs hP hD hS => ?_)
  have hP : va_P (dC, dI) classes [(h0, .inr (5, [.ref q1, .null, .null, .null, .null, .null])), (q1, .inr (0, [.ref q2, .int 0])), (q2, .inl (k3, 2000, .inl (fun _ => 0)))] H := hP
  have hD : va_D A [(h0, .inr (5, [.ref q1, .null, .null, .null, .null, .null])), (q1, .inr (0, [.ref q2, .int 0])), (q2, .inl (k3, 2000, .inl (fun _ => 0)))] := hD
  refine lv_aload_n hx hb dX6_init_15 rfl (lv_at hl 0 rfl) ?_
  refine va_new (ci := 0) (fs := [.null, .int 0]) (C := RX0) (T := TX0) (N := 2) hx hb htb iwX0 tyX0 tyX0_ok hown (htb _ mi_24) (htb _ mi_25) (htb _ mw_2) hK hP hD hS hA rfl (fun j hj => by rcases (show j = 0 ∨ j = 1 by omega) with rfl | rfl <;> rfl) (Nat.le_of_ble_eq_true rfl) (Nat.le_of_ble_eq_true rfl) dX6_init_16 (fun q4 H hP hD hS => ?_)
  have hP : va_P (dC, dI) classes [(h0, .inr (5, [.ref q1, .null, .null, .null, .null, .null])), (q1, .inr (0, [.ref q2, .int 0])), (q2, .inl (k3, 2000, .inl (fun _ => 0))), (q4, .inr (0, [.null, .int 0]))] H := hP
  have hD : va_D A [(h0, .inr (5, [.ref q1, .null, .null, .null, .null, .null])), (q1, .inr (0, [.ref q2, .int 0])), (q2, .inl (k3, 2000, .inl (fun _ => 0))), (q4, .inr (0, [.null, .int 0]))] := hD
  refine W.widen (k := 3) (n := 2004) (by omega) (by omega) ?_
  refine lv_dup hx hb dX6_init_19 rfl ?_
  have hPc := hP.sub (ws' := [(q4, .inr (0, [.null, .int 0]))]) [3] rfl
  have hDc := hD.sub (ws' := [(q4, .inr (0, [.null, .int 0]))]) [3] (by decide) rfl
  have hKc := hK.sub (tys' := []) [] rfl
  have hFc := va_free (wc := [(q4, .inr (0, [.null, .int 0]))]) hD hS hA [3] rfl
  refine va_callv (va_runI (As := []) (rest := [.ref q4, .ref h0]) ⟨hx, hb, hml, hown, htb⟩ (c_X0_init l dC dI q4 H.size) (cwI 0 htb (gx_goodT mi_28) rfl rfl rfl (htb _ mw_2) (htb _ mi_26) (htb _ mi_27) rfl (by decide +kernel) ⟨Nat.le_of_ble_eq_true rfl, Nat.le_of_ble_eq_true rfl⟩) ⟨fun a U g mk q => by obtain ⟨q0, q1, qP, qK, qD⟩ := q; exact ⟨q0, q1, qP, va_K.moved (u := U) (U := U.calling g mk a) (Vm.Alike.refl U.vm) qK, qD⟩, fun U hU hW => ⟨rfl, by rw [hU], by rw [hU]; exact hPc, va_K.moved hW.alike hKc, hDc.weaken (fun _ _ _ _ => trivial)⟩⟩ rfl rfl hl.1 rfl (lv_room (Nat.le_of_ble_eq_true rfl)) dX6_init_20 ⟨Nat.le_of_ble_eq_true rfl, Nat.le_of_ble_eq_true rfl⟩) hS (fun q _ h => hFc q h) hFc (fun u t H1 locs ht hvm hw hB hz1 hk1 hS => ?_)
  obtain ⟨q5, k6, hP1, hK1, hD1⟩ := hB
  rw [ht] at hP1
  have hK1 := va_K.moved hvm.symm hK1
  obtain ⟨hP, hD⟩ := va_join (wr := [(h0, .inr (5, [.ref q1, .null, .null, .null, .null, .null])), (q1, .inr (0, [.ref q2, .int 0])), (q2, .inl (k3, 2000, .inl (fun _ => 0)))]) (w1 := [(q4, .inr (0, [.ref q5, .int 0])), (q5, .inl (k6, 2000, .inl (fun _ => 0)))]) hP hD [3] [0, 1, 2] rfl rfl (by decide) (by decide) hk1 hFc hP1 hD1
  have hK := (hK.sub (tys' := [(k3, .byte)]) [0] rfl).app hK1
  generalize H1 = H at hP hS ⊢
  have hP : va_P (dC, dI) classes [(h0, .inr (5, [.ref q1, .null, .null, .null, .null, .null])), (q1, .inr (0, [.ref q2, .int 0])), (q2, .inl (k3, 2000, .inl (fun _ => 0))), (q4, .inr (0, [.ref q5, .int 0])), (q5, .inl (k6, 2000, .inl (fun _ => 0)))] H := hP
  have hD : va_D A [(h0, .inr (5, [.ref q1, .null, .null, .null, .null, .null])), (q1, .inr (0, [.ref q2, .int 0])), (q2, .inl (k3, 2000, .inl (fun _ => 0))), (q4, .inr (0, [.ref q5, .int 0])), (q5, .inl (k6, 2000, .inl (fun _ => 0)))] := hD
  have hK : va_K (dC, dI) classes [(k3, .byte), (k6, .byte)] s := hK
  refine W.widen (k := 4) (n := 4004) (by omega) (by omega) ?_
  refine va_putF (D := (dC, dI)) (ci := 5) (v := .ref q4) (ty := .object "PlainSeal$Bytes") (C := RX6) (T := TX6) (N := 6) hx hb htb iwX6 tyX6 tyX6_ok nmX6 hown hK hP hD hS 0 rfl rfl 1 (by decide) (htb _ mw_105) (fun _ h9 => h9) rfl hin rfl (by decide +kernel) rfl rfl (Nat.le_of_ble_eq_true rfl) dX6_init_23 (fun H locs hP hD hS => ?_)
  have hP : va_P (dC, dI) classes [(h0, .inr (5, [.ref q1, .ref q4, .null, .null, .null, .null])), (q1, .inr (0, [.ref q2, .int 0])), (q2, .inl (k3, 2000, .inl (fun _ => 0))), (q4, .inr (0, [.ref q5, .int 0])), (q5, .inl (k6, 2000, .inl (fun _ => 0)))] H := hP
  have hD : va_D A [(h0, .inr (5, [.ref q1, .ref q4, .null, .null, .null, .null])), (q1, .inr (0, [.ref q2, .int 0])), (q2, .inl (k3, 2000, .inl (fun _ => 0))), (q4, .inr (0, [.ref q5, .int 0])), (q5, .inl (k6, 2000, .inl (fun _ => 0)))] := hD
  refine lv_aload_n hx hb dX6_init_26 rfl (lv_at hl 0 rfl) ?_
  refine va_new (ci := 1) (fs := [.null, .null, .int 0]) (C := RX1) (T := TX1) (N := 3) hx hb htb iwX1 tyX1 tyX1_ok hown (htb _ mi_38) (htb _ mi_39) (htb _ mw_3) hK hP hD hS hA rfl (fun j hj => by rcases (show j = 0 ∨ j = 1 ∨ j = 2 by omega) with rfl | rfl | rfl <;> rfl) (Nat.le_of_ble_eq_true rfl) (Nat.le_of_ble_eq_true rfl) dX6_init_27 (fun q7 H hP hD hS => ?_)
  have hP : va_P (dC, dI) classes [(h0, .inr (5, [.ref q1, .ref q4, .null, .null, .null, .null])), (q1, .inr (0, [.ref q2, .int 0])), (q2, .inl (k3, 2000, .inl (fun _ => 0))), (q4, .inr (0, [.ref q5, .int 0])), (q5, .inl (k6, 2000, .inl (fun _ => 0))), (q7, .inr (1, [.null, .null, .int 0]))] H := hP
  have hD : va_D A [(h0, .inr (5, [.ref q1, .ref q4, .null, .null, .null, .null])), (q1, .inr (0, [.ref q2, .int 0])), (q2, .inl (k3, 2000, .inl (fun _ => 0))), (q4, .inr (0, [.ref q5, .int 0])), (q5, .inl (k6, 2000, .inl (fun _ => 0))), (q7, .inr (1, [.null, .null, .int 0]))] := hD
  refine W.widen (k := 5) (n := 4007) (by omega) (by omega) ?_
  refine lv_dup hx hb dX6_init_30 rfl ?_
  have hPc := hP.sub (ws' := [(q7, .inr (1, [.null, .null, .int 0]))]) [5] rfl
  have hDc := hD.sub (ws' := [(q7, .inr (1, [.null, .null, .int 0]))]) [5] (by decide) rfl
  have hKc := hK.sub (tys' := []) [] rfl
  have hFc := va_free (wc := [(q7, .inr (1, [.null, .null, .int 0]))]) hD hS hA [5] rfl
  refine va_callv (va_runI (As := []) (rest := [.ref q7, .ref h0]) ⟨hx, hb, hml, hown, htb⟩ (c_X1_init l dC dI q7 H.size) (cwI 0 htb (gx_goodT mi_42) rfl rfl rfl (htb _ mw_3) (htb _ mi_40) (htb _ mi_41) rfl (by decide +kernel) ⟨Nat.le_of_ble_eq_true rfl, Nat.le_of_ble_eq_true rfl⟩) ⟨fun a U g mk q => by obtain ⟨q0, q1, qP, qK, qD⟩ := q; exact ⟨q0, q1, qP, va_K.moved (u := U) (U := U.calling g mk a) (Vm.Alike.refl U.vm) qK, qD⟩, fun U hU hW => ⟨rfl, by rw [hU], by rw [hU]; exact hPc, va_K.moved hW.alike hKc, hDc.weaken (fun _ _ _ _ => trivial)⟩⟩ rfl rfl hl.1 rfl (lv_room (Nat.le_of_ble_eq_true rfl)) dX6_init_31 ⟨Nat.le_of_ble_eq_true rfl, Nat.le_of_ble_eq_true rfl⟩) hS (fun q _ h => hFc q h) hFc (fun u t H1 locs ht hvm hw hB hz1 hk1 hS => ?_)
  obtain ⟨q8, q9, k10, q11, k12, hP1, hK1, hD1⟩ := hB
  rw [ht] at hP1
  have hK1 := va_K.moved hvm.symm hK1
  obtain ⟨hP, hD⟩ := va_join (wr := [(h0, .inr (5, [.ref q1, .ref q4, .null, .null, .null, .null])), (q1, .inr (0, [.ref q2, .int 0])), (q2, .inl (k3, 2000, .inl (fun _ => 0))), (q4, .inr (0, [.ref q5, .int 0])), (q5, .inl (k6, 2000, .inl (fun _ => 0)))]) (w1 := [(q7, .inr (1, [.ref q8, .ref q11, .int 0])), (q8, .inr (0, [.ref q9, .int 0])), (q9, .inl (k10, 2000, .inl (fun _ => 0))), (q11, .inl (k12, 21, .inl (fun _ => 0)))]) hP hD [5] [0, 1, 2, 3, 4] rfl rfl (by decide) (by decide) hk1 hFc hP1 hD1
  have hK := (hK.sub (tys' := [(k3, .byte), (k6, .byte)]) [0, 1] rfl).app hK1
  generalize H1 = H at hP hS ⊢
  have hP : va_P (dC, dI) classes [(h0, .inr (5, [.ref q1, .ref q4, .null, .null, .null, .null])), (q1, .inr (0, [.ref q2, .int 0])), (q2, .inl (k3, 2000, .inl (fun _ => 0))), (q4, .inr (0, [.ref q5, .int 0])), (q5, .inl (k6, 2000, .inl (fun _ => 0))), (q7, .inr (1, [.ref q8, .ref q11, .int 0])), (q8, .inr (0, [.ref q9, .int 0])), (q9, .inl (k10, 2000, .inl (fun _ => 0))), (q11, .inl (k12, 21, .inl (fun _ => 0)))] H := hP
  have hD : va_D A [(h0, .inr (5, [.ref q1, .ref q4, .null, .null, .null, .null])), (q1, .inr (0, [.ref q2, .int 0])), (q2, .inl (k3, 2000, .inl (fun _ => 0))), (q4, .inr (0, [.ref q5, .int 0])), (q5, .inl (k6, 2000, .inl (fun _ => 0))), (q7, .inr (1, [.ref q8, .ref q11, .int 0])), (q8, .inr (0, [.ref q9, .int 0])), (q9, .inl (k10, 2000, .inl (fun _ => 0))), (q11, .inl (k12, 21, .inl (fun _ => 0)))] := hD
  have hK : va_K (dC, dI) classes [(k3, .byte), (k6, .byte), (k10, .byte), (k12, .int)] s := hK
  refine W.widen (k := 8) (n := 6030) (by omega) (by omega) ?_
  refine va_putF (D := (dC, dI)) (ci := 5) (v := .ref q7) (ty := .object "PlainSeal$Mail") (C := RX6) (T := TX6) (N := 6) hx hb htb iwX6 tyX6 tyX6_ok nmX6 hown hK hP hD hS 0 rfl rfl 2 (by decide) (htb _ mw_106) (fun _ h9 => h9) rfl hin rfl (by decide +kernel) rfl rfl (Nat.le_of_ble_eq_true rfl) dX6_init_34 (fun H locs hP hD hS => ?_)
  have hP : va_P (dC, dI) classes [(h0, .inr (5, [.ref q1, .ref q4, .ref q7, .null, .null, .null])), (q1, .inr (0, [.ref q2, .int 0])), (q2, .inl (k3, 2000, .inl (fun _ => 0))), (q4, .inr (0, [.ref q5, .int 0])), (q5, .inl (k6, 2000, .inl (fun _ => 0))), (q7, .inr (1, [.ref q8, .ref q11, .int 0])), (q8, .inr (0, [.ref q9, .int 0])), (q9, .inl (k10, 2000, .inl (fun _ => 0))), (q11, .inl (k12, 21, .inl (fun _ => 0)))] H := hP
  have hD : va_D A [(h0, .inr (5, [.ref q1, .ref q4, .ref q7, .null, .null, .null])), (q1, .inr (0, [.ref q2, .int 0])), (q2, .inl (k3, 2000, .inl (fun _ => 0))), (q4, .inr (0, [.ref q5, .int 0])), (q5, .inl (k6, 2000, .inl (fun _ => 0))), (q7, .inr (1, [.ref q8, .ref q11, .int 0])), (q8, .inr (0, [.ref q9, .int 0])), (q9, .inl (k10, 2000, .inl (fun _ => 0))), (q11, .inl (k12, 21, .inl (fun _ => 0)))] := hD
  refine lv_aload_n hx hb dX6_init_37 rfl (lv_at hl 0 rfl) ?_
  refine va_new (ci := 4) (fs := [.null]) (C := RX5) (T := TX5) (N := 1) hx hb htb iwX5 tyX5 tyX5_ok hown (htb _ mi_57) (htb _ mi_58) (htb _ mw_4) hK hP hD hS hA rfl (fun j hj => by rcases (show j = 0 by omega) with rfl <;> rfl) (Nat.le_of_ble_eq_true rfl) (Nat.le_of_ble_eq_true rfl) dX6_init_38 (fun q13 H hP hD hS => ?_)
  have hP : va_P (dC, dI) classes [(h0, .inr (5, [.ref q1, .ref q4, .ref q7, .null, .null, .null])), (q1, .inr (0, [.ref q2, .int 0])), (q2, .inl (k3, 2000, .inl (fun _ => 0))), (q4, .inr (0, [.ref q5, .int 0])), (q5, .inl (k6, 2000, .inl (fun _ => 0))), (q7, .inr (1, [.ref q8, .ref q11, .int 0])), (q8, .inr (0, [.ref q9, .int 0])), (q9, .inl (k10, 2000, .inl (fun _ => 0))), (q11, .inl (k12, 21, .inl (fun _ => 0))), (q13, .inr (4, [.null]))] H := hP
  have hD : va_D A [(h0, .inr (5, [.ref q1, .ref q4, .ref q7, .null, .null, .null])), (q1, .inr (0, [.ref q2, .int 0])), (q2, .inl (k3, 2000, .inl (fun _ => 0))), (q4, .inr (0, [.ref q5, .int 0])), (q5, .inl (k6, 2000, .inl (fun _ => 0))), (q7, .inr (1, [.ref q8, .ref q11, .int 0])), (q8, .inr (0, [.ref q9, .int 0])), (q9, .inl (k10, 2000, .inl (fun _ => 0))), (q11, .inl (k12, 21, .inl (fun _ => 0))), (q13, .inr (4, [.null]))] := hD
  refine W.widen (k := 9) (n := 6031) (by omega) (by omega) ?_
  refine lv_dup hx hb dX6_init_41 rfl ?_
  have hPc := hP.sub (ws' := [(q13, .inr (4, [.null]))]) [9] rfl
  have hDc := hD.sub (ws' := [(q13, .inr (4, [.null]))]) [9] (by decide) rfl
  have hKc := hK.sub (tys' := []) [] rfl
  have hFc := va_free (wc := [(q13, .inr (4, [.null]))]) hD hS hA [9] rfl
  refine va_callv (va_runI (As := []) (rest := [.ref q13, .ref h0]) ⟨hx, hb, hml, hown, htb⟩ (c_X5_init l dC dI q13 H.size) (cwI 0 htb (gx_goodT mi_61) rfl rfl rfl (htb _ mw_4) (htb _ mi_59) (htb _ mi_60) rfl (by decide +kernel) ⟨Nat.le_of_ble_eq_true rfl, Nat.le_of_ble_eq_true rfl⟩) ⟨fun a U g mk q => by obtain ⟨q0, q1, qP, qK, qD⟩ := q; exact ⟨q0, q1, qP, va_K.moved (u := U) (U := U.calling g mk a) (Vm.Alike.refl U.vm) qK, qD⟩, fun U hU hW => ⟨rfl, by rw [hU], by rw [hU]; exact hPc, va_K.moved hW.alike hKc, hDc.weaken (fun _ _ _ _ => trivial)⟩⟩ rfl rfl hl.1 rfl (lv_room (Nat.le_of_ble_eq_true rfl)) dX6_init_42 ⟨Nat.le_of_ble_eq_true rfl, Nat.le_of_ble_eq_true rfl⟩) hS (fun q _ h => hFc q h) hFc (fun u t H1 locs ht hvm hw hB hz1 hk1 hS => ?_)
  obtain ⟨q14, q15, k16, hP1, hK1, hD1⟩ := hB
  rw [ht] at hP1
  have hK1 := va_K.moved hvm.symm hK1
  obtain ⟨hP, hD⟩ := va_join (wr := [(h0, .inr (5, [.ref q1, .ref q4, .ref q7, .null, .null, .null])), (q1, .inr (0, [.ref q2, .int 0])), (q2, .inl (k3, 2000, .inl (fun _ => 0))), (q4, .inr (0, [.ref q5, .int 0])), (q5, .inl (k6, 2000, .inl (fun _ => 0))), (q7, .inr (1, [.ref q8, .ref q11, .int 0])), (q8, .inr (0, [.ref q9, .int 0])), (q9, .inl (k10, 2000, .inl (fun _ => 0))), (q11, .inl (k12, 21, .inl (fun _ => 0)))]) (w1 := [(q13, .inr (4, [.ref q14])), (q14, .inr (0, [.ref q15, .int 0])), (q15, .inl (k16, 2000, .inl (fun _ => 0)))]) hP hD [9] [0, 1, 2, 3, 4, 5, 6, 7, 8] rfl rfl (by decide) (by decide) hk1 hFc hP1 hD1
  have hK := (hK.sub (tys' := [(k3, .byte), (k6, .byte), (k10, .byte), (k12, .int)]) [0, 1, 2, 3] rfl).app hK1
  generalize H1 = H at hP hS ⊢
  have hP : va_P (dC, dI) classes [(h0, .inr (5, [.ref q1, .ref q4, .ref q7, .null, .null, .null])), (q1, .inr (0, [.ref q2, .int 0])), (q2, .inl (k3, 2000, .inl (fun _ => 0))), (q4, .inr (0, [.ref q5, .int 0])), (q5, .inl (k6, 2000, .inl (fun _ => 0))), (q7, .inr (1, [.ref q8, .ref q11, .int 0])), (q8, .inr (0, [.ref q9, .int 0])), (q9, .inl (k10, 2000, .inl (fun _ => 0))), (q11, .inl (k12, 21, .inl (fun _ => 0))), (q13, .inr (4, [.ref q14])), (q14, .inr (0, [.ref q15, .int 0])), (q15, .inl (k16, 2000, .inl (fun _ => 0)))] H := hP
  have hD : va_D A [(h0, .inr (5, [.ref q1, .ref q4, .ref q7, .null, .null, .null])), (q1, .inr (0, [.ref q2, .int 0])), (q2, .inl (k3, 2000, .inl (fun _ => 0))), (q4, .inr (0, [.ref q5, .int 0])), (q5, .inl (k6, 2000, .inl (fun _ => 0))), (q7, .inr (1, [.ref q8, .ref q11, .int 0])), (q8, .inr (0, [.ref q9, .int 0])), (q9, .inl (k10, 2000, .inl (fun _ => 0))), (q11, .inl (k12, 21, .inl (fun _ => 0))), (q13, .inr (4, [.ref q14])), (q14, .inr (0, [.ref q15, .int 0])), (q15, .inl (k16, 2000, .inl (fun _ => 0)))] := hD
  have hK : va_K (dC, dI) classes [(k3, .byte), (k6, .byte), (k10, .byte), (k12, .int), (k16, .byte)] s := hK
  refine W.widen (k := 11) (n := 8033) (by omega) (by omega) ?_
  refine va_putF (D := (dC, dI)) (ci := 5) (v := .ref q13) (ty := .object "PlainSeal$TagList") (C := RX6) (T := TX6) (N := 6) hx hb htb iwX6 tyX6 tyX6_ok nmX6 hown hK hP hD hS 0 rfl rfl 3 (by decide) (htb _ mw_107) (fun _ h9 => h9) rfl hin rfl (by decide +kernel) rfl rfl (Nat.le_of_ble_eq_true rfl) dX6_init_45 (fun H locs hP hD hS => ?_)
  have hP : va_P (dC, dI) classes [(h0, .inr (5, [.ref q1, .ref q4, .ref q7, .ref q13, .null, .null])), (q1, .inr (0, [.ref q2, .int 0])), (q2, .inl (k3, 2000, .inl (fun _ => 0))), (q4, .inr (0, [.ref q5, .int 0])), (q5, .inl (k6, 2000, .inl (fun _ => 0))), (q7, .inr (1, [.ref q8, .ref q11, .int 0])), (q8, .inr (0, [.ref q9, .int 0])), (q9, .inl (k10, 2000, .inl (fun _ => 0))), (q11, .inl (k12, 21, .inl (fun _ => 0))), (q13, .inr (4, [.ref q14])), (q14, .inr (0, [.ref q15, .int 0])), (q15, .inl (k16, 2000, .inl (fun _ => 0)))] H := hP
  have hD : va_D A [(h0, .inr (5, [.ref q1, .ref q4, .ref q7, .ref q13, .null, .null])), (q1, .inr (0, [.ref q2, .int 0])), (q2, .inl (k3, 2000, .inl (fun _ => 0))), (q4, .inr (0, [.ref q5, .int 0])), (q5, .inl (k6, 2000, .inl (fun _ => 0))), (q7, .inr (1, [.ref q8, .ref q11, .int 0])), (q8, .inr (0, [.ref q9, .int 0])), (q9, .inl (k10, 2000, .inl (fun _ => 0))), (q11, .inl (k12, 21, .inl (fun _ => 0))), (q13, .inr (4, [.ref q14])), (q14, .inr (0, [.ref q15, .int 0])), (q15, .inl (k16, 2000, .inl (fun _ => 0)))] := hD
  refine lv_aload_n hx hb dX6_init_48 rfl (lv_at hl 0 rfl) ?_
  refine va_new (ci := 3) (fs := [.null, .null, .null]) (C := RX3) (T := TX3) (N := 3) hx hb htb iwX3 tyX3 tyX3_ok hown (htb _ mi_69) (htb _ mi_70) (htb _ mw_5) hK hP hD hS hA rfl (fun j hj => by rcases (show j = 0 ∨ j = 1 ∨ j = 2 by omega) with rfl | rfl | rfl <;> rfl) (Nat.le_of_ble_eq_true rfl) (Nat.le_of_ble_eq_true rfl) dX6_init_49 (fun q17 H hP hD hS => ?_)
  have hP : va_P (dC, dI) classes [(h0, .inr (5, [.ref q1, .ref q4, .ref q7, .ref q13, .null, .null])), (q1, .inr (0, [.ref q2, .int 0])), (q2, .inl (k3, 2000, .inl (fun _ => 0))), (q4, .inr (0, [.ref q5, .int 0])), (q5, .inl (k6, 2000, .inl (fun _ => 0))), (q7, .inr (1, [.ref q8, .ref q11, .int 0])), (q8, .inr (0, [.ref q9, .int 0])), (q9, .inl (k10, 2000, .inl (fun _ => 0))), (q11, .inl (k12, 21, .inl (fun _ => 0))), (q13, .inr (4, [.ref q14])), (q14, .inr (0, [.ref q15, .int 0])), (q15, .inl (k16, 2000, .inl (fun _ => 0))), (q17, .inr (3, [.null, .null, .null]))] H := hP
  have hD : va_D A [(h0, .inr (5, [.ref q1, .ref q4, .ref q7, .ref q13, .null, .null])), (q1, .inr (0, [.ref q2, .int 0])), (q2, .inl (k3, 2000, .inl (fun _ => 0))), (q4, .inr (0, [.ref q5, .int 0])), (q5, .inl (k6, 2000, .inl (fun _ => 0))), (q7, .inr (1, [.ref q8, .ref q11, .int 0])), (q8, .inr (0, [.ref q9, .int 0])), (q9, .inl (k10, 2000, .inl (fun _ => 0))), (q11, .inl (k12, 21, .inl (fun _ => 0))), (q13, .inr (4, [.ref q14])), (q14, .inr (0, [.ref q15, .int 0])), (q15, .inl (k16, 2000, .inl (fun _ => 0))), (q17, .inr (3, [.null, .null, .null]))] := hD
  refine W.widen (k := 12) (n := 8036) (by omega) (by omega) ?_
  refine lv_dup hx hb dX6_init_52 rfl ?_
  have hPc := hP.sub (ws' := [(q17, .inr (3, [.null, .null, .null]))]) [12] rfl
  have hDc := hD.sub (ws' := [(q17, .inr (3, [.null, .null, .null]))]) [12] (by decide) rfl
  have hKc := hK.sub (tys' := []) [] rfl
  have hFc := va_free (wc := [(q17, .inr (3, [.null, .null, .null]))]) hD hS hA [12] rfl
  refine va_callv (va_runI (As := []) (rest := [.ref q17, .ref h0]) ⟨hx, hb, hml, hown, htb⟩ (c_X3_init l dC dI q17 H.size) (cwI 0 htb (gx_goodT mi_73) rfl rfl rfl (htb _ mw_5) (htb _ mi_71) (htb _ mi_72) rfl (by decide +kernel) ⟨Nat.le_of_ble_eq_true rfl, Nat.le_of_ble_eq_true rfl⟩) ⟨fun a U g mk q => by obtain ⟨q0, q1, qP, qK, qD⟩ := q; exact ⟨q0, q1, qP, va_K.moved (u := U) (U := U.calling g mk a) (Vm.Alike.refl U.vm) qK, qD⟩, fun U hU hW => ⟨rfl, by rw [hU], by rw [hU]; exact hPc, va_K.moved hW.alike hKc, hDc.weaken (fun _ _ _ _ => trivial)⟩⟩ rfl rfl hl.1 rfl (lv_room (Nat.le_of_ble_eq_true rfl)) dX6_init_53 ⟨Nat.le_of_ble_eq_true rfl, Nat.le_of_ble_eq_true rfl⟩) hS (fun q _ h => hFc q h) hFc (fun u t H1 locs ht hvm hw hB hz1 hk1 hS => ?_)
  obtain ⟨q18, k19, q20, k21, q22, k23, hP1, hK1, hD1⟩ := hB
  rw [ht] at hP1
  have hK1 := va_K.moved hvm.symm hK1
  obtain ⟨hP, hD⟩ := va_join (wr := [(h0, .inr (5, [.ref q1, .ref q4, .ref q7, .ref q13, .null, .null])), (q1, .inr (0, [.ref q2, .int 0])), (q2, .inl (k3, 2000, .inl (fun _ => 0))), (q4, .inr (0, [.ref q5, .int 0])), (q5, .inl (k6, 2000, .inl (fun _ => 0))), (q7, .inr (1, [.ref q8, .ref q11, .int 0])), (q8, .inr (0, [.ref q9, .int 0])), (q9, .inl (k10, 2000, .inl (fun _ => 0))), (q11, .inl (k12, 21, .inl (fun _ => 0))), (q13, .inr (4, [.ref q14])), (q14, .inr (0, [.ref q15, .int 0])), (q15, .inl (k16, 2000, .inl (fun _ => 0)))]) (w1 := [(q17, .inr (3, [.ref q18, .ref q20, .ref q22])), (q18, .inl (k19, 8, .inl (fun _ => 0))), (q20, .inl (k21, 8, .inl (fun _ => 0))), (q22, .inl (k23, 64, .inl (fun _ => 0)))]) hP hD [12] [0, 1, 2, 3, 4, 5, 6, 7, 8, 9, 10, 11] rfl rfl (by decide) (by decide) hk1 hFc hP1 hD1
  have hK := (hK.sub (tys' := [(k3, .byte), (k6, .byte), (k10, .byte), (k12, .int), (k16, .byte)]) [0, 1, 2, 3, 4] rfl).app hK1
  generalize H1 = H at hP hS ⊢
  have hP : va_P (dC, dI) classes [(h0, .inr (5, [.ref q1, .ref q4, .ref q7, .ref q13, .null, .null])), (q1, .inr (0, [.ref q2, .int 0])), (q2, .inl (k3, 2000, .inl (fun _ => 0))), (q4, .inr (0, [.ref q5, .int 0])), (q5, .inl (k6, 2000, .inl (fun _ => 0))), (q7, .inr (1, [.ref q8, .ref q11, .int 0])), (q8, .inr (0, [.ref q9, .int 0])), (q9, .inl (k10, 2000, .inl (fun _ => 0))), (q11, .inl (k12, 21, .inl (fun _ => 0))), (q13, .inr (4, [.ref q14])), (q14, .inr (0, [.ref q15, .int 0])), (q15, .inl (k16, 2000, .inl (fun _ => 0))), (q17, .inr (3, [.ref q18, .ref q20, .ref q22])), (q18, .inl (k19, 8, .inl (fun _ => 0))), (q20, .inl (k21, 8, .inl (fun _ => 0))), (q22, .inl (k23, 64, .inl (fun _ => 0)))] H := hP
  have hD : va_D A [(h0, .inr (5, [.ref q1, .ref q4, .ref q7, .ref q13, .null, .null])), (q1, .inr (0, [.ref q2, .int 0])), (q2, .inl (k3, 2000, .inl (fun _ => 0))), (q4, .inr (0, [.ref q5, .int 0])), (q5, .inl (k6, 2000, .inl (fun _ => 0))), (q7, .inr (1, [.ref q8, .ref q11, .int 0])), (q8, .inr (0, [.ref q9, .int 0])), (q9, .inl (k10, 2000, .inl (fun _ => 0))), (q11, .inl (k12, 21, .inl (fun _ => 0))), (q13, .inr (4, [.ref q14])), (q14, .inr (0, [.ref q15, .int 0])), (q15, .inl (k16, 2000, .inl (fun _ => 0))), (q17, .inr (3, [.ref q18, .ref q20, .ref q22])), (q18, .inl (k19, 8, .inl (fun _ => 0))), (q20, .inl (k21, 8, .inl (fun _ => 0))), (q22, .inl (k23, 64, .inl (fun _ => 0)))] := hD
  have hK : va_K (dC, dI) classes [(k3, .byte), (k6, .byte), (k10, .byte), (k12, .int), (k16, .byte), (k19, .int), (k21, .int), (k23, .int)] s := hK
  refine W.widen (k := 15) (n := 8116) (by omega) (by omega) ?_
  refine va_putF (D := (dC, dI)) (ci := 5) (v := .ref q17) (ty := .object "PlainSeal$Sha256") (C := RX6) (T := TX6) (N := 6) hx hb htb iwX6 tyX6 tyX6_ok nmX6 hown hK hP hD hS 0 rfl rfl 4 (by decide) (htb _ mw_108) (fun _ h9 => h9) rfl hin rfl (by decide +kernel) rfl rfl (Nat.le_of_ble_eq_true rfl) dX6_init_56 (fun H locs hP hD hS => ?_)
  have hP : va_P (dC, dI) classes [(h0, .inr (5, [.ref q1, .ref q4, .ref q7, .ref q13, .ref q17, .null])), (q1, .inr (0, [.ref q2, .int 0])), (q2, .inl (k3, 2000, .inl (fun _ => 0))), (q4, .inr (0, [.ref q5, .int 0])), (q5, .inl (k6, 2000, .inl (fun _ => 0))), (q7, .inr (1, [.ref q8, .ref q11, .int 0])), (q8, .inr (0, [.ref q9, .int 0])), (q9, .inl (k10, 2000, .inl (fun _ => 0))), (q11, .inl (k12, 21, .inl (fun _ => 0))), (q13, .inr (4, [.ref q14])), (q14, .inr (0, [.ref q15, .int 0])), (q15, .inl (k16, 2000, .inl (fun _ => 0))), (q17, .inr (3, [.ref q18, .ref q20, .ref q22])), (q18, .inl (k19, 8, .inl (fun _ => 0))), (q20, .inl (k21, 8, .inl (fun _ => 0))), (q22, .inl (k23, 64, .inl (fun _ => 0)))] H := hP
  have hD : va_D A [(h0, .inr (5, [.ref q1, .ref q4, .ref q7, .ref q13, .ref q17, .null])), (q1, .inr (0, [.ref q2, .int 0])), (q2, .inl (k3, 2000, .inl (fun _ => 0))), (q4, .inr (0, [.ref q5, .int 0])), (q5, .inl (k6, 2000, .inl (fun _ => 0))), (q7, .inr (1, [.ref q8, .ref q11, .int 0])), (q8, .inr (0, [.ref q9, .int 0])), (q9, .inl (k10, 2000, .inl (fun _ => 0))), (q11, .inl (k12, 21, .inl (fun _ => 0))), (q13, .inr (4, [.ref q14])), (q14, .inr (0, [.ref q15, .int 0])), (q15, .inl (k16, 2000, .inl (fun _ => 0))), (q17, .inr (3, [.ref q18, .ref q20, .ref q22])), (q18, .inl (k19, 8, .inl (fun _ => 0))), (q20, .inl (k21, 8, .inl (fun _ => 0))), (q22, .inl (k23, 64, .inl (fun _ => 0)))] := hD
  refine lv_aload_n hx hb dX6_init_59 rfl (lv_at hl 0 rfl) ?_
  refine va_new (ci := 2) (fs := [.null, .null, .null, .null]) (C := RX2) (T := TX2) (N := 4) hx hb htb iwX2 tyX2 tyX2_ok hown (htb _ mi_85) (htb _ mi_86) (htb _ mw_6) hK hP hD hS hA rfl (fun j hj => by rcases (show j = 0 ∨ j = 1 ∨ j = 2 ∨ j = 3 by omega) with rfl | rfl | rfl | rfl <;> rfl) (Nat.le_of_ble_eq_true rfl) (Nat.le_of_ble_eq_true rfl) dX6_init_60 (fun q24 H hP hD hS => ?_)
  have hP : va_P (dC, dI) classes [(h0, .inr (5, [.ref q1, .ref q4, .ref q7, .ref q13, .ref q17, .null])), (q1, .inr (0, [.ref q2, .int 0])), (q2, .inl (k3, 2000, .inl (fun _ => 0))), (q4, .inr (0, [.ref q5, .int 0])), (q5, .inl (k6, 2000, .inl (fun _ => 0))), (q7, .inr (1, [.ref q8, .ref q11, .int 0])), (q8, .inr (0, [.ref q9, .int 0])), (q9, .inl (k10, 2000, .inl (fun _ => 0))), (q11, .inl (k12, 21, .inl (fun _ => 0))), (q13, .inr (4, [.ref q14])), (q14, .inr (0, [.ref q15, .int 0])), (q15, .inl (k16, 2000, .inl (fun _ => 0))), (q17, .inr (3, [.ref q18, .ref q20, .ref q22])), (q18, .inl (k19, 8, .inl (fun _ => 0))), (q20, .inl (k21, 8, .inl (fun _ => 0))), (q22, .inl (k23, 64, .inl (fun _ => 0))), (q24, .inr (2, [.null, .null, .null, .null]))] H := hP
  have hD : va_D A [(h0, .inr (5, [.ref q1, .ref q4, .ref q7, .ref q13, .ref q17, .null])), (q1, .inr (0, [.ref q2, .int 0])), (q2, .inl (k3, 2000, .inl (fun _ => 0))), (q4, .inr (0, [.ref q5, .int 0])), (q5, .inl (k6, 2000, .inl (fun _ => 0))), (q7, .inr (1, [.ref q8, .ref q11, .int 0])), (q8, .inr (0, [.ref q9, .int 0])), (q9, .inl (k10, 2000, .inl (fun _ => 0))), (q11, .inl (k12, 21, .inl (fun _ => 0))), (q13, .inr (4, [.ref q14])), (q14, .inr (0, [.ref q15, .int 0])), (q15, .inl (k16, 2000, .inl (fun _ => 0))), (q17, .inr (3, [.ref q18, .ref q20, .ref q22])), (q18, .inl (k19, 8, .inl (fun _ => 0))), (q20, .inl (k21, 8, .inl (fun _ => 0))), (q22, .inl (k23, 64, .inl (fun _ => 0))), (q24, .inr (2, [.null, .null, .null, .null]))] := hD
  refine W.widen (k := 16) (n := 8120) (by omega) (by omega) ?_
  refine lv_dup hx hb dX6_init_63 rfl ?_
  have hPc := hP.sub (ws' := [(q24, .inr (2, [.null, .null, .null, .null]))]) [16] rfl
  have hDc := hD.sub (ws' := [(q24, .inr (2, [.null, .null, .null, .null]))]) [16] (by decide) rfl
  have hKc := hK.sub (tys' := []) [] rfl
  have hFc := va_free (wc := [(q24, .inr (2, [.null, .null, .null, .null]))]) hD hS hA [16] rfl
  refine va_callv (va_runI (As := []) (rest := [.ref q24, .ref h0]) ⟨hx, hb, hml, hown, htb⟩ (c_X2_init l dC dI q24 H.size) (cwI 0 htb (gx_goodT mi_89) rfl rfl rfl (htb _ mw_6) (htb _ mi_87) (htb _ mi_88) rfl (by decide +kernel) ⟨Nat.le_of_ble_eq_true rfl, Nat.le_of_ble_eq_true rfl⟩) ⟨fun a U g mk q => by obtain ⟨q0, q1, qP, qK, qD⟩ := q; exact ⟨q0, q1, qP, va_K.moved (u := U) (U := U.calling g mk a) (Vm.Alike.refl U.vm) qK, qD⟩, fun U hU hW => ⟨rfl, by rw [hU], by rw [hU]; exact hPc, va_K.moved hW.alike hKc, hDc.weaken (fun _ _ _ _ => trivial)⟩⟩ rfl rfl hl.1 rfl (lv_room (Nat.le_of_ble_eq_true rfl)) dX6_init_64 ⟨Nat.le_of_ble_eq_true rfl, Nat.le_of_ble_eq_true rfl⟩) hS (fun q _ h => hFc q h) hFc (fun u t H1 locs ht hvm hw hB hz1 hk1 hS => ?_)
  obtain ⟨q25, k26, q27, k28, q29, k30, q31, k32, hP1, hK1, hD1⟩ := hB
  rw [ht] at hP1
  have hK1 := va_K.moved hvm.symm hK1
  obtain ⟨hP, hD⟩ := va_join (wr := [(h0, .inr (5, [.ref q1, .ref q4, .ref q7, .ref q13, .ref q17, .null])), (q1, .inr (0, [.ref q2, .int 0])), (q2, .inl (k3, 2000, .inl (fun _ => 0))), (q4, .inr (0, [.ref q5, .int 0])), (q5, .inl (k6, 2000, .inl (fun _ => 0))), (q7, .inr (1, [.ref q8, .ref q11, .int 0])), (q8, .inr (0, [.ref q9, .int 0])), (q9, .inl (k10, 2000, .inl (fun _ => 0))), (q11, .inl (k12, 21, .inl (fun _ => 0))), (q13, .inr (4, [.ref q14])), (q14, .inr (0, [.ref q15, .int 0])), (q15, .inl (k16, 2000, .inl (fun _ => 0))), (q17, .inr (3, [.ref q18, .ref q20, .ref q22])), (q18, .inl (k19, 8, .inl (fun _ => 0))), (q20, .inl (k21, 8, .inl (fun _ => 0))), (q22, .inl (k23, 64, .inl (fun _ => 0)))]) (w1 := [(q24, .inr (2, [.ref q25, .ref q27, .ref q29, .ref q31])), (q25, .inl (k26, 32, .inl (fun _ => 0))), (q27, .inl (k28, 32, .inl (fun _ => 0))), (q29, .inl (k30, 32, .inl (fun _ => 0))), (q31, .inl (k32, 64, .inl (fun _ => 0)))]) hP hD [16] [0, 1, 2, 3, 4, 5, 6, 7, 8, 9, 10, 11, 12, 13, 14, 15] rfl rfl (by decide) (by decide) hk1 hFc hP1 hD1
  have hK := (hK.sub (tys' := [(k3, .byte), (k6, .byte), (k10, .byte), (k12, .int), (k16, .byte), (k19, .int), (k21, .int), (k23, .int)]) [0, 1, 2, 3, 4, 5, 6, 7] rfl).app hK1
  generalize H1 = H at hP hS ⊢
  have hP : va_P (dC, dI) classes [(h0, .inr (5, [.ref q1, .ref q4, .ref q7, .ref q13, .ref q17, .null])), (q1, .inr (0, [.ref q2, .int 0])), (q2, .inl (k3, 2000, .inl (fun _ => 0))), (q4, .inr (0, [.ref q5, .int 0])), (q5, .inl (k6, 2000, .inl (fun _ => 0))), (q7, .inr (1, [.ref q8, .ref q11, .int 0])), (q8, .inr (0, [.ref q9, .int 0])), (q9, .inl (k10, 2000, .inl (fun _ => 0))), (q11, .inl (k12, 21, .inl (fun _ => 0))), (q13, .inr (4, [.ref q14])), (q14, .inr (0, [.ref q15, .int 0])), (q15, .inl (k16, 2000, .inl (fun _ => 0))), (q17, .inr (3, [.ref q18, .ref q20, .ref q22])), (q18, .inl (k19, 8, .inl (fun _ => 0))), (q20, .inl (k21, 8, .inl (fun _ => 0))), (q22, .inl (k23, 64, .inl (fun _ => 0))), (q24, .inr (2, [.ref q25, .ref q27, .ref q29, .ref q31])), (q25, .inl (k26, 32, .inl (fun _ => 0))), (q27, .inl (k28, 32, .inl (fun _ => 0))), (q29, .inl (k30, 32, .inl (fun _ => 0))), (q31, .inl (k32, 64, .inl (fun _ => 0)))] H := hP
  have hD : va_D A [(h0, .inr (5, [.ref q1, .ref q4, .ref q7, .ref q13, .ref q17, .null])), (q1, .inr (0, [.ref q2, .int 0])), (q2, .inl (k3, 2000, .inl (fun _ => 0))), (q4, .inr (0, [.ref q5, .int 0])), (q5, .inl (k6, 2000, .inl (fun _ => 0))), (q7, .inr (1, [.ref q8, .ref q11, .int 0])), (q8, .inr (0, [.ref q9, .int 0])), (q9, .inl (k10, 2000, .inl (fun _ => 0))), (q11, .inl (k12, 21, .inl (fun _ => 0))), (q13, .inr (4, [.ref q14])), (q14, .inr (0, [.ref q15, .int 0])), (q15, .inl (k16, 2000, .inl (fun _ => 0))), (q17, .inr (3, [.ref q18, .ref q20, .ref q22])), (q18, .inl (k19, 8, .inl (fun _ => 0))), (q20, .inl (k21, 8, .inl (fun _ => 0))), (q22, .inl (k23, 64, .inl (fun _ => 0))), (q24, .inr (2, [.ref q25, .ref q27, .ref q29, .ref q31])), (q25, .inl (k26, 32, .inl (fun _ => 0))), (q27, .inl (k28, 32, .inl (fun _ => 0))), (q29, .inl (k30, 32, .inl (fun _ => 0))), (q31, .inl (k32, 64, .inl (fun _ => 0)))] := hD
  have hK : va_K (dC, dI) classes [(k3, .byte), (k6, .byte), (k10, .byte), (k12, .int), (k16, .byte), (k19, .int), (k21, .int), (k23, .int), (k26, .int), (k28, .int), (k30, .int), (k32, .int)] s := hK
  refine W.widen (k := 20) (n := 8280) (by omega) (by omega) ?_
  refine va_putF (D := (dC, dI)) (ci := 5) (v := .ref q24) (ty := .object "PlainSeal$Modular") (C := RX6) (T := TX6) (N := 6) hx hb htb iwX6 tyX6 tyX6_ok nmX6 hown hK hP hD hS 0 rfl rfl 5 (by decide) (htb _ mw_109) (fun _ h9 => h9) rfl hin rfl (by decide +kernel) rfl rfl (Nat.le_of_ble_eq_true rfl) dX6_init_67 (fun H locs hP hD hS => ?_)
  have hP : va_P (dC, dI) classes [(h0, .inr (5, [.ref q1, .ref q4, .ref q7, .ref q13, .ref q17, .ref q24])), (q1, .inr (0, [.ref q2, .int 0])), (q2, .inl (k3, 2000, .inl (fun _ => 0))), (q4, .inr (0, [.ref q5, .int 0])), (q5, .inl (k6, 2000, .inl (fun _ => 0))), (q7, .inr (1, [.ref q8, .ref q11, .int 0])), (q8, .inr (0, [.ref q9, .int 0])), (q9, .inl (k10, 2000, .inl (fun _ => 0))), (q11, .inl (k12, 21, .inl (fun _ => 0))), (q13, .inr (4, [.ref q14])), (q14, .inr (0, [.ref q15, .int 0])), (q15, .inl (k16, 2000, .inl (fun _ => 0))), (q17, .inr (3, [.ref q18, .ref q20, .ref q22])), (q18, .inl (k19, 8, .inl (fun _ => 0))), (q20, .inl (k21, 8, .inl (fun _ => 0))), (q22, .inl (k23, 64, .inl (fun _ => 0))), (q24, .inr (2, [.ref q25, .ref q27, .ref q29, .ref q31])), (q25, .inl (k26, 32, .inl (fun _ => 0))), (q27, .inl (k28, 32, .inl (fun _ => 0))), (q29, .inl (k30, 32, .inl (fun _ => 0))), (q31, .inl (k32, 64, .inl (fun _ => 0)))] H := hP
  have hD : va_D A [(h0, .inr (5, [.ref q1, .ref q4, .ref q7, .ref q13, .ref q17, .ref q24])), (q1, .inr (0, [.ref q2, .int 0])), (q2, .inl (k3, 2000, .inl (fun _ => 0))), (q4, .inr (0, [.ref q5, .int 0])), (q5, .inl (k6, 2000, .inl (fun _ => 0))), (q7, .inr (1, [.ref q8, .ref q11, .int 0])), (q8, .inr (0, [.ref q9, .int 0])), (q9, .inl (k10, 2000, .inl (fun _ => 0))), (q11, .inl (k12, 21, .inl (fun _ => 0))), (q13, .inr (4, [.ref q14])), (q14, .inr (0, [.ref q15, .int 0])), (q15, .inl (k16, 2000, .inl (fun _ => 0))), (q17, .inr (3, [.ref q18, .ref q20, .ref q22])), (q18, .inl (k19, 8, .inl (fun _ => 0))), (q20, .inl (k21, 8, .inl (fun _ => 0))), (q22, .inl (k23, 64, .inl (fun _ => 0))), (q24, .inr (2, [.ref q25, .ref q27, .ref q29, .ref q31])), (q25, .inl (k26, 32, .inl (fun _ => 0))), (q27, .inl (k28, 32, .inl (fun _ => 0))), (q29, .inl (k30, 32, .inl (fun _ => 0))), (q31, .inl (k32, 64, .inl (fun _ => 0)))] := hD
  have hP9 := hP.sub (ws' := [(h0, .inr (5, [.ref q1, .ref q4, .ref q7, .ref q13, .ref q17, .ref q24])), (q1, .inr (0, [.ref q2, .int 0])), (q2, .inl (k3, 2000, .inl (fun _ => 0))), (q4, .inr (0, [.ref q5, .int 0])), (q5, .inl (k6, 2000, .inl (fun _ => 0))), (q7, .inr (1, [.ref q8, .ref q11, .int 0])), (q8, .inr (0, [.ref q9, .int 0])), (q9, .inl (k10, 2000, .inl (fun _ => 0))), (q11, .inl (k12, 21, .inl (fun _ => 0))), (q13, .inr (4, [.ref q14])), (q14, .inr (0, [.ref q15, .int 0])), (q15, .inl (k16, 2000, .inl (fun _ => 0))), (q17, .inr (3, [.ref q18, .ref q20, .ref q22])), (q18, .inl (k19, 8, .inl (fun _ => 0))), (q20, .inl (k21, 8, .inl (fun _ => 0))), (q22, .inl (k23, 64, .inl (fun _ => 0))), (q24, .inr (2, [.ref q25, .ref q27, .ref q29, .ref q31])), (q25, .inl (k26, 32, .inl (fun _ => 0))), (q27, .inl (k28, 32, .inl (fun _ => 0))), (q29, .inl (k30, 32, .inl (fun _ => 0))), (q31, .inl (k32, 64, .inl (fun _ => 0)))]) [0, 1, 2, 3, 4, 5, 6, 7, 8, 9, 10, 11, 12, 13, 14, 15, 16, 17, 18, 19, 20] rfl
  have hD9 := hD.sub (ws' := [(h0, .inr (5, [.ref q1, .ref q4, .ref q7, .ref q13, .ref q17, .ref q24])), (q1, .inr (0, [.ref q2, .int 0])), (q2, .inl (k3, 2000, .inl (fun _ => 0))), (q4, .inr (0, [.ref q5, .int 0])), (q5, .inl (k6, 2000, .inl (fun _ => 0))), (q7, .inr (1, [.ref q8, .ref q11, .int 0])), (q8, .inr (0, [.ref q9, .int 0])), (q9, .inl (k10, 2000, .inl (fun _ => 0))), (q11, .inl (k12, 21, .inl (fun _ => 0))), (q13, .inr (4, [.ref q14])), (q14, .inr (0, [.ref q15, .int 0])), (q15, .inl (k16, 2000, .inl (fun _ => 0))), (q17, .inr (3, [.ref q18, .ref q20, .ref q22])), (q18, .inl (k19, 8, .inl (fun _ => 0))), (q20, .inl (k21, 8, .inl (fun _ => 0))), (q22, .inl (k23, 64, .inl (fun _ => 0))), (q24, .inr (2, [.ref q25, .ref q27, .ref q29, .ref q31])), (q25, .inl (k26, 32, .inl (fun _ => 0))), (q27, .inl (k28, 32, .inl (fun _ => 0))), (q29, .inl (k30, 32, .inl (fun _ => 0))), (q31, .inl (k32, 64, .inl (fun _ => 0)))]) [0, 1, 2, 3, 4, 5, 6, 7, 8, 9, 10, 11, 12, 13, 14, 15, 16, 17, 18, 19, 20] (by decide) rfl
  have hK9 := hK.sub (tys' := [(k3, .byte), (k6, .byte), (k10, .byte), (k12, .int), (k16, .byte), (k19, .int), (k21, .int), (k23, .int), (k26, .int), (k28, .int), (k30, .int), (k32, .int)]) [0, 1, 2, 3, 4, 5, 6, 7, 8, 9, 10, 11] rfl
  exact W.vret hx hb hr (fun t ht hW => ⟨⟨(), rfl, trivial, q1, q2, k3, q4, q5, k6, q7, q8, q9, k10, q11, k12, q13, q14, q15, k16, q17, q18, k19, q20, k21, q22, k23, q24, q25, k26, q27, k28, q29, k30, q31, k32, by rw [ht]; exact hP9, va_K.moved hW.alike hK9, hD9⟩, hS.F ht⟩) hS.2.2 dX6_init_70

theorem mi_434 : Cond.instantiable RX9 2 ∈ gx_TB := List.mem_filter.mpr ⟨List.mem_append_right _ (List.mem_of_getElem? (i := 434) (by decide +kernel)), by decide +kernel⟩
theorem mi_436 : Cond.instanceMethod yX9_init ∈ gx_TB := List.mem_filter.mpr ⟨List.mem_append_right _ (List.mem_of_getElem? (i := 436) (by decide +kernel)), by decide +kernel⟩
set_option maxRecDepth 100000 in
theorem mi_437 : Cond.code yX9_init cX9_init 2 none ∈ gx_TB := List.mem_filter.mpr ⟨List.mem_append_right _ (List.mem_of_getElem? (i := 437) rfl), by decide +kernel⟩
theorem mi_438 : Cond.methodLink RX9 1 objectInit ∈ gx_TB := List.mem_filter.mpr ⟨List.mem_append_right _ (List.mem_of_getElem? (i := 438) (by decide +kernel)), by decide +kernel⟩
theorem mi_455 : Cond.methodLink RX8 3 objectInit ∈ gx_TB := List.mem_filter.mpr ⟨List.mem_append_right _ (List.mem_of_getElem? (i := 455) (by decide +kernel)), by decide +kernel⟩
theorem mi_456 : Cond.classLink RX8 21 RX9 ∈ gx_TB := List.mem_filter.mpr ⟨List.mem_append_right _ (List.mem_of_getElem? (i := 456) (by decide +kernel)), by decide +kernel⟩
theorem mi_457 : Cond.methodLink RX8 23 yX9_init ∈ gx_TB := List.mem_filter.mpr ⟨List.mem_append_right _ (List.mem_of_getElem? (i := 457) (by decide +kernel)), by decide +kernel⟩
theorem dX9_init_0 : decode cX9_init 0 = .ok (.aload_n 0, 1) := by decide +kernel
theorem dX9_init_1 : decode cX9_init 1 = .ok (.invokespecial 1, 3) := by decide +kernel
theorem dX9_init_4 : decode cX9_init 4 = .ok (.aload_n 0, 1) := by decide +kernel
theorem dX9_init_5 : decode cX9_init 5 = .ok (.iload_n 1, 1) := by decide +kernel
theorem dX9_init_6 : decode cX9_init 6 = .ok (.newarray .byte, 2) := by decide +kernel
theorem dX9_init_8 : decode cX9_init 8 = .ok (.putfield 7, 3) := by decide +kernel
theorem dX9_init_11 : decode cX9_init 11 = .ok (.return_, 1) := by decide +kernel
def at_X9_init_4000 (dC : Nat → ClassId) (dI : Nat → Nat → Nat) (A : Nat → Prop) (h0 : Nat) (t : State) : Prop := ∃ q1 : Nat, ∃ k1 : ClassId, va_P (dC, dI) classes [(h0, .inr (8, [.ref q1, .int 0])), (q1, .inl (k1, 4000, .inl (fun _ => 0)))] t.heap ∧ va_K (dC, dI) classes [(k1, .byte)] t ∧ va_D A [(h0, .inr (8, [.ref q1, .int 0])), (q1, .inl (k1, 4000, .inl (fun _ => 0)))]
set_option maxHeartbeats 4000000 in
set_option maxRecDepth 100000 in
theorem c_X9_init_4000 (l : Launch) (dC : Nat → ClassId) (dI : Nat → Nat → Nat) (h0 : Nat) (sz : Nat) : Met l yX9_init (Cond.code yX9_init cX9_init 2 none :: gx_TB) ({ frames := 1, cells := 1, slots := 4000, locals := 12 }) (va_Pc [.ref h0, .int 4000] (fun U => U.heap.size = sz ∧ va_P (dC, dI) classes [(h0, .inr (8, [.null, .int 0]))] U.heap ∧ va_K (dC, dI) classes [] U ∧ va_D (fun _ => True) [(h0, .inr (8, [.null, .int 0]))])) (va_Qv (fun _ : Unit => True) (fun _ t => at_X9_init_4000 dC dI (va_A [(h0, .inr (8, [.null, .int 0]))] sz) h0 t) (va_A [(h0, .inr (8, [.null, .int 0]))] sz)) 1 4000 (va_A [(h0, .inr (8, [.null, .int 0]))] sz) := by
  refine Met.ofW (cc := cX9_init) (maxL := 2) (ret := none) (by decide +kernel) rfl ?_
  intro p e s m args below meth c s₁ B hml hv
  obtain ⟨rfl, hsz, hP, hK, hD0⟩ := hv
  have hx := B.exec
  have hb := B.bytes
  have hr := B.returns
  have hts := atoms_spec (ws := Cond.code yX9_init cX9_init 2 none :: gx_TB) B.pre
  have htb : ∀ w ∈ gx_TB, w.before _ s = true := fun w hw => hts w (List.mem_cons_of_mem _ hw)
  have hown : s.vm.findClass RX9 = some m.cls := findClass_of_methodNamed B.named
  have hlocks := B.notSynchronized
  have hin : meth.name = "<init>" := (name_of_methodNamed B.named B.method).1
  subst hsz
  have hD := hD0.self (sz := s.heap.size)
  generalize hAe : va_A [(h0, .inr (8, [.null, .int 0]))] s.heap.size = A at hD ⊢
  have hA : ∀ q : Nat, s.heap.size ≤ q → A q := fun q h => by rw [← hAe]; exact Or.inr h
  have hS : va_S A s.heap s.heap [] := va_S.rf
  have hP : va_P (dC, dI) classes [(h0, .inr (8, [.null, .int 0]))] s.heap := hP
  have hl := lv_entry ([.ref h0, .int 4000]) (n := 2) (Nat.le_of_ble_eq_true rfl)
  rw [lg_entry_eq]
  generalize (lg_sl ([.ref h0, .int 4000]) ++ List.replicate (2 - (lg_sl ([.ref h0, .int 4000])).length) Slot.unset).toArray = ls at hl ⊢
  have hl : lv_has ls 2 [(0, .ref h0), (1, .int 4000)] := hl
  refine lv_aload_n hx hb dX9_init_0 rfl (lv_at hl 0 rfl) ?_
  refine W.objInit hx hb hown (htb _ mi_438) (htb _ mi_22) (htb _ mi_23) rfl (by rw [hml]; exact hl.1) rfl dX9_init_1 (Nat.le_of_ble_eq_true rfl) (Nat.le_of_ble_eq_true rfl) ?_
  refine W.eq (g2 := F0 m 4 ls []) rfl ?_
  refine lv_aload_n hx hb dX9_init_4 rfl (lv_at hl 0 rfl) ?_
  refine lv_iload_n hx hb dX9_init_5 rfl (lv_at hl 1 rfl) ?_
  refine va_newa (atype := .byte) (a0 := (4000, .inl (fun _ => 0))) hx hb (htb _ mi_37) (ty := .byte) rfl hK hP hD hS hA (N' := 4000) (fun _ => rfl) (by decide) (by decide) (by decide) (Nat.le_of_ble_eq_true rfl) (Nat.le_of_ble_eq_true rfl) dX9_init_6 (fun q1 k1 H hK hP hD hS => ?_)
  have hP : va_P (dC, dI) classes [(h0, .inr (8, [.null, .int 0])), (q1, .inl (k1, 4000, .inl (fun _ => 0)))] H := hP
  have hD : va_D A [(h0, .inr (8, [.null, .int 0])), (q1, .inl (k1, 4000, .inl (fun _ => 0)))] := hD
  have hK : va_K (dC, dI) classes [(k1, .byte)] s := hK
  refine W.widen (k := 1) (n := 4000) (by omega) (by omega) ?_
  refine va_putF (D := (dC, dI)) (ci := 8) (v := .ref q1) (ty := .array .byte) (C := RX9) (T := TX9) (N := 2) hx hb htb iwX9 tyX9 tyX9_ok nmX9 hown hK hP hD hS 0 rfl rfl 0 (by decide) (htb _ mw_439) (fun _ h9 => h9) rfl hin rfl (by decide +kernel) rfl rfl (Nat.le_of_ble_eq_true rfl) dX9_init_8 (fun H locs hP hD hS => ?_)
  have hP : va_P (dC, dI) classes [(h0, .inr (8, [.ref q1, .int 0])), (q1, .inl (k1, 4000, .inl (fun _ => 0)))] H := hP
  have hD : va_D A [(h0, .inr (8, [.ref q1, .int 0])), (q1, .inl (k1, 4000, .inl (fun _ => 0)))] := hD
  have hP9 := hP.sub (ws' := [(h0, .inr (8, [.ref q1, .int 0])), (q1, .inl (k1, 4000, .inl (fun _ => 0)))]) [0, 1] rfl
  have hD9 := hD.sub (ws' := [(h0, .inr (8, [.ref q1, .int 0])), (q1, .inl (k1, 4000, .inl (fun _ => 0)))]) [0, 1] (by decide) rfl
  have hK9 := hK.sub (tys' := [(k1, .byte)]) [0] rfl
  exact W.vret hx hb hr (fun t ht hW => ⟨⟨(), rfl, trivial, q1, k1, by rw [ht]; exact hP9, va_K.moved hW.alike hK9, hD9⟩, hS.F ht⟩) hS.2.2 dX9_init_11
def at_X9_init_2000 (dC : Nat → ClassId) (dI : Nat → Nat → Nat) (A : Nat → Prop) (h0 : Nat) (t : State) : Prop := ∃ q1 : Nat, ∃ k1 : ClassId, va_P (dC, dI) classes [(h0, .inr (8, [.ref q1, .int 0])), (q1, .inl (k1, 2000, .inl (fun _ => 0)))] t.heap ∧ va_K (dC, dI) classes [(k1, .byte)] t ∧ va_D A [(h0, .inr (8, [.ref q1, .int 0])), (q1, .inl (k1, 2000, .inl (fun _ => 0)))]
set_option maxHeartbeats 4000000 in
set_option maxRecDepth 100000 in
theorem c_X9_init_2000 (l : Launch) (dC : Nat → ClassId) (dI : Nat → Nat → Nat) (h0 : Nat) (sz : Nat) : Met l yX9_init (Cond.code yX9_init cX9_init 2 none :: gx_TB) ({ frames := 1, cells := 1, slots := 2000, locals := 12 }) (va_Pc [.ref h0, .int 2000] (fun U => U.heap.size = sz ∧ va_P (dC, dI) classes [(h0, .inr (8, [.null, .int 0]))] U.heap ∧ va_K (dC, dI) classes [] U ∧ va_D (fun _ => True) [(h0, .inr (8, [.null, .int 0]))])) (va_Qv (fun _ : Unit => True) (fun _ t => at_X9_init_2000 dC dI (va_A [(h0, .inr (8, [.null, .int 0]))] sz) h0 t) (va_A [(h0, .inr (8, [.null, .int 0]))] sz)) 1 2000 (va_A [(h0, .inr (8, [.null, .int 0]))] sz) := by
  refine Met.ofW (cc := cX9_init) (maxL := 2) (ret := none) (by decide +kernel) rfl ?_
  intro p e s m args below meth c s₁ B hml hv
  obtain ⟨rfl, hsz, hP, hK, hD0⟩ := hv
  have hx := B.exec
  have hb := B.bytes
  have hr := B.returns
  have hts := atoms_spec (ws := Cond.code yX9_init cX9_init 2 none :: gx_TB) B.pre
  have htb : ∀ w ∈ gx_TB, w.before _ s = true := fun w hw => hts w (List.mem_cons_of_mem _ hw)
  have hown : s.vm.findClass RX9 = some m.cls := findClass_of_methodNamed B.named
  have hlocks := B.notSynchronized
  have hin : meth.name = "<init>" := (name_of_methodNamed B.named B.method).1
  subst hsz
  have hD := hD0.self (sz := s.heap.size)
  generalize hAe : va_A [(h0, .inr (8, [.null, .int 0]))] s.heap.size = A at hD ⊢
  have hA : ∀ q : Nat, s.heap.size ≤ q → A q := fun q h => by rw [← hAe]; exact Or.inr h
  have hS : va_S A s.heap s.heap [] := va_S.rf
  have hP : va_P (dC, dI) classes [(h0, .inr (8, [.null, .int 0]))] s.heap := hP
  have hl := lv_entry ([.ref h0, .int 2000]) (n := 2) (Nat.le_of_ble_eq_true rfl)
  rw [lg_entry_eq]
  generalize (lg_sl ([.ref h0, .int 2000]) ++ List.replicate (2 - (lg_sl ([.ref h0, .int 2000])).length) Slot.unset).toArray = ls at hl ⊢
  have hl : lv_has ls 2 [(0, .ref h0), (1, .int 2000)] := hl
  refine lv_aload_n hx hb dX9_init_0 rfl (lv_at hl 0 rfl) ?_
  refine W.objInit hx hb hown (htb _ mi_438) (htb _ mi_22) (htb _ mi_23) rfl (by rw [hml]; exact hl.1) rfl dX9_init_1 (Nat.le_of_ble_eq_true rfl) (Nat.le_of_ble_eq_true rfl) ?_
  refine W.eq (g2 := F0 m 4 ls []) rfl ?_
  refine lv_aload_n hx hb dX9_init_4 rfl (lv_at hl 0 rfl) ?_
  refine lv_iload_n hx hb dX9_init_5 rfl (lv_at hl 1 rfl) ?_
  refine va_newa (atype := .byte) (a0 := (2000, .inl (fun _ => 0))) hx hb (htb _ mi_37) (ty := .byte) rfl hK hP hD hS hA (N' := 2000) (fun _ => rfl) (by decide) (by decide) (by decide) (Nat.le_of_ble_eq_true rfl) (Nat.le_of_ble_eq_true rfl) dX9_init_6 (fun q1 k1 H hK hP hD hS => ?_)
  have hP : va_P (dC, dI) classes [(h0, .inr (8, [.null, .int 0])), (q1, .inl (k1, 2000, .inl (fun _ => 0)))] H := hP
  have hD : va_D A [(h0, .inr (8, [.null, .int 0])), (q1, .inl (k1, 2000, .inl (fun _ => 0)))] := hD
  have hK : va_K (dC, dI) classes [(k1, .byte)] s := hK
  refine W.widen (k := 1) (n := 2000) (by omega) (by omega) ?_
  refine va_putF (D := (dC, dI)) (ci := 8) (v := .ref q1) (ty := .array .byte) (C := RX9) (T := TX9) (N := 2) hx hb htb iwX9 tyX9 tyX9_ok nmX9 hown hK hP hD hS 0 rfl rfl 0 (by decide) (htb _ mw_439) (fun _ h9 => h9) rfl hin rfl (by decide +kernel) rfl rfl (Nat.le_of_ble_eq_true rfl) dX9_init_8 (fun H locs hP hD hS => ?_)
  have hP : va_P (dC, dI) classes [(h0, .inr (8, [.ref q1, .int 0])), (q1, .inl (k1, 2000, .inl (fun _ => 0)))] H := hP
  have hD : va_D A [(h0, .inr (8, [.ref q1, .int 0])), (q1, .inl (k1, 2000, .inl (fun _ => 0)))] := hD
  have hP9 := hP.sub (ws' := [(h0, .inr (8, [.ref q1, .int 0])), (q1, .inl (k1, 2000, .inl (fun _ => 0)))]) [0, 1] rfl
  have hD9 := hD.sub (ws' := [(h0, .inr (8, [.ref q1, .int 0])), (q1, .inl (k1, 2000, .inl (fun _ => 0)))]) [0, 1] (by decide) rfl
  have hK9 := hK.sub (tys' := [(k1, .byte)]) [0] rfl
  exact W.vret hx hb hr (fun t ht hW => ⟨⟨(), rfl, trivial, q1, k1, by rw [ht]; exact hP9, va_K.moved hW.alike hK9, hD9⟩, hS.F ht⟩) hS.2.2 dX9_init_11
theorem dX8_init_0 : decode cX8_init 0 = .ok (.aload_n 0, 1) := by decide +kernel
theorem dX8_init_1 : decode cX8_init 1 = .ok (.invokespecial 3, 3) := by decide +kernel
theorem dX8_init_4 : decode cX8_init 4 = .ok (.aload_n 0, 1) := by decide +kernel
theorem dX8_init_5 : decode cX8_init 5 = .ok (.bipush 40, 2) := by decide +kernel
theorem dX8_init_7 : decode cX8_init 7 = .ok (.newarray .int, 2) := by decide +kernel
theorem dX8_init_9 : decode cX8_init 9 = .ok (.putfield 9, 3) := by decide +kernel
theorem dX8_init_12 : decode cX8_init 12 = .ok (.aload_n 0, 1) := by decide +kernel
theorem dX8_init_13 : decode cX8_init 13 = .ok (.bipush 40, 2) := by decide +kernel
theorem dX8_init_15 : decode cX8_init 15 = .ok (.newarray .int, 2) := by decide +kernel
theorem dX8_init_17 : decode cX8_init 17 = .ok (.putfield 15, 3) := by decide +kernel
theorem dX8_init_20 : decode cX8_init 20 = .ok (.aload_n 0, 1) := by decide +kernel
theorem dX8_init_21 : decode cX8_init 21 = .ok (.bipush 40, 2) := by decide +kernel
theorem dX8_init_23 : decode cX8_init 23 = .ok (.newarray .int, 2) := by decide +kernel
theorem dX8_init_25 : decode cX8_init 25 = .ok (.putfield 18, 3) := by decide +kernel
theorem dX8_init_28 : decode cX8_init 28 = .ok (.aload_n 0, 1) := by decide +kernel
theorem dX8_init_29 : decode cX8_init 29 = .ok (.new 21, 3) := by decide +kernel
theorem dX8_init_32 : decode cX8_init 32 = .ok (.dup, 1) := by decide +kernel
theorem dX8_init_33 : decode cX8_init 33 = .ok (.iload_n 1, 1) := by decide +kernel
theorem dX8_init_34 : decode cX8_init 34 = .ok (.invokespecial 23, 3) := by decide +kernel
theorem dX8_init_37 : decode cX8_init 37 = .ok (.putfield 26, 3) := by decide +kernel
theorem dX8_init_40 : decode cX8_init 40 = .ok (.return_, 1) := by decide +kernel
def at_X8_init_2000 (dC : Nat → ClassId) (dI : Nat → Nat → Nat) (A : Nat → Prop) (h0 : Nat) (t : State) : Prop := ∃ q1 : Nat, ∃ k1 : ClassId, ∃ q2 : Nat, ∃ k2 : ClassId, ∃ q3 : Nat, ∃ k3 : ClassId, ∃ q4 : Nat, ∃ q5 : Nat, ∃ k6 : ClassId, va_P (dC, dI) classes [(h0, .inr (7, [.ref q4, .ref q1, .ref q2, .ref q3, .int 0])), (q1, .inl (k1, 40, .inl (fun _ => 0))), (q2, .inl (k2, 40, .inl (fun _ => 0))), (q3, .inl (k3, 40, .inl (fun _ => 0))), (q4, .inr (8, [.ref q5, .int 0])), (q5, .inl (k6, 2000, .inl (fun _ => 0)))] t.heap ∧ va_K (dC, dI) classes [(k1, .int), (k2, .int), (k3, .int), (k6, .byte)] t ∧ va_D A [(h0, .inr (7, [.ref q4, .ref q1, .ref q2, .ref q3, .int 0])), (q1, .inl (k1, 40, .inl (fun _ => 0))), (q2, .inl (k2, 40, .inl (fun _ => 0))), (q3, .inl (k3, 40, .inl (fun _ => 0))), (q4, .inr (8, [.ref q5, .int 0])), (q5, .inl (k6, 2000, .inl (fun _ => 0)))]
set_option maxHeartbeats 4000000 in
set_option maxRecDepth 100000 in
theorem c_X8_init_2000 (l : Launch) (dC : Nat → ClassId) (dI : Nat → Nat → Nat) (h0 : Nat) (sz : Nat) : Met l yX8_init (Cond.code yX8_init cX8_init 2 none :: gx_TB) ({ frames := 2, cells := 5, slots := 2122, locals := 33 }) (va_Pc [.ref h0, .int 2000] (fun U => U.heap.size = sz ∧ va_P (dC, dI) classes [(h0, .inr (7, [.null, .null, .null, .null, .int 0]))] U.heap ∧ va_K (dC, dI) classes [] U ∧ va_D (fun _ => True) [(h0, .inr (7, [.null, .null, .null, .null, .int 0]))])) (va_Qv (fun _ : Unit => True) (fun _ t => at_X8_init_2000 dC dI (va_A [(h0, .inr (7, [.null, .null, .null, .null, .int 0]))] sz) h0 t) (va_A [(h0, .inr (7, [.null, .null, .null, .null, .int 0]))] sz)) 5 2122 (va_A [(h0, .inr (7, [.null, .null, .null, .null, .int 0]))] sz) := by
  refine Met.ofW (cc := cX8_init) (maxL := 2) (ret := none) (by decide +kernel) rfl ?_
  intro p e s m args below meth c s₁ B hml hv
  obtain ⟨rfl, hsz, hP, hK, hD0⟩ := hv
  have hx := B.exec
  have hb := B.bytes
  have hr := B.returns
  have hts := atoms_spec (ws := Cond.code yX8_init cX8_init 2 none :: gx_TB) B.pre
  have htb : ∀ w ∈ gx_TB, w.before _ s = true := fun w hw => hts w (List.mem_cons_of_mem _ hw)
  have hown : s.vm.findClass RX8 = some m.cls := findClass_of_methodNamed B.named
  have hlocks := B.notSynchronized
  have hin : meth.name = "<init>" := (name_of_methodNamed B.named B.method).1
  subst hsz
  have hD := hD0.self (sz := s.heap.size)
  generalize hAe : va_A [(h0, .inr (7, [.null, .null, .null, .null, .int 0]))] s.heap.size = A at hD ⊢
  have hA : ∀ q : Nat, s.heap.size ≤ q → A q := fun q h => by rw [← hAe]; exact Or.inr h
  have hS : va_S A s.heap s.heap [] := va_S.rf
  have hP : va_P (dC, dI) classes [(h0, .inr (7, [.null, .null, .null, .null, .int 0]))] s.heap := hP
  have hl := lv_entry ([.ref h0, .int 2000]) (n := 2) (Nat.le_of_ble_eq_true rfl)
  rw [lg_entry_eq]
  generalize (lg_sl ([.ref h0, .int 2000]) ++ List.replicate (2 - (lg_sl ([.ref h0, .int 2000])).length) Slot.unset).toArray = ls at hl ⊢
  have hl : lv_has ls 2 [(0, .ref h0), (1, .int 2000)] := hl
  refine lv_aload_n hx hb dX8_init_0 rfl (lv_at hl 0 rfl) ?_
  refine W.objInit hx hb hown (htb _ mi_455) (htb _ mi_22) (htb _ mi_23) rfl (by rw [hml]; exact hl.1) rfl dX8_init_1 (Nat.le_of_ble_eq_true rfl) (Nat.le_of_ble_eq_true rfl) ?_
  refine W.eq (g2 := F0 m 4 ls []) rfl ?_
  refine lv_aload_n hx hb dX8_init_4 rfl (lv_at hl 0 rfl) ?_
  refine lv_bipush (v := 40) hx hb dX8_init_5 (by decide) ?_
  refine va_newa (atype := .int) (a0 := (40, .inl (fun _ => 0))) hx hb (htb _ mi_56) (ty := .int) rfl hK hP hD hS hA (N' := 40) (fun _ => rfl) (by decide) (by decide) (by decide) (Nat.le_of_ble_eq_true rfl) (Nat.le_of_ble_eq_true rfl) dX8_init_7 (fun q1 k1 H hK hP hD hS => ?_)
  have hP : va_P (dC, dI) classes [(h0, .inr (7, [.null, .null, .null, .null, .int 0])), (q1, .inl (k1, 40, .inl (fun _ => 0)))] H := hP
  have hD : va_D A [(h0, .inr (7, [.null, .null, .null, .null, .int 0])), (q1, .inl (k1, 40, .inl (fun _ => 0)))] := hD
  have hK : va_K (dC, dI) classes [(k1, .int)] s := hK
  refine W.widen (k := 1) (n := 40) (by omega) (by omega) ?_
  refine va_putF (D := (dC, dI)) (ci := 7) (v := .ref q1) (ty := .array .int) (C := RX8) (T := TX8) (N := 5) hx hb htb iwX8 tyX8 tyX8_ok nmX8 hown hK hP hD hS 0 rfl rfl 1 (by decide) (htb _ mw_460) (fun _ h9 => h9) rfl hin rfl (by decide +kernel) rfl rfl (Nat.le_of_ble_eq_true rfl) dX8_init_9 (fun H locs hP hD hS => ?_)
  have hP : va_P (dC, dI) classes [(h0, .inr (7, [.null, .ref q1, .null, .null, .int 0])), (q1, .inl (k1, 40, .inl (fun _ => 0)))] H := hP
  have hD : va_D A [(h0, .inr (7, [.null, .ref q1, .null, .null, .int 0])), (q1, .inl (k1, 40, .inl (fun _ => 0)))] := hD
  refine lv_aload_n hx hb dX8_init_12 rfl (lv_at hl 0 rfl) ?_
  refine lv_bipush (v := 40) hx hb dX8_init_13 (by decide) ?_
  refine va_newa (atype := .int) (a0 := (40, .inl (fun _ => 0))) hx hb (htb _ mi_56) (ty := .int) rfl hK hP hD hS hA (N' := 40) (fun _ => rfl) (by decide) (by decide) (by decide) (Nat.le_of_ble_eq_true rfl) (Nat.le_of_ble_eq_true rfl) dX8_init_15 (fun q2 k2 H hK hP hD hS => ?_)
  have hP : va_P (dC, dI) classes [(h0, .inr (7, [.null, .ref q1, .null, .null, .int 0])), (q1, .inl (k1, 40, .inl (fun _ => 0))), (q2, .inl (k2, 40, .inl (fun _ => 0)))] H := hP
  have hD : va_D A [(h0, .inr (7, [.null, .ref q1, .null, .null, .int 0])), (q1, .inl (k1, 40, .inl (fun _ => 0))), (q2, .inl (k2, 40, .inl (fun _ => 0)))] := hD
  have hK : va_K (dC, dI) classes [(k1, .int), (k2, .int)] s := hK
  refine W.widen (k := 2) (n := 80) (by omega) (by omega) ?_
  refine va_putF (D := (dC, dI)) (ci := 7) (v := .ref q2) (ty := .array .int) (C := RX8) (T := TX8) (N := 5) hx hb htb iwX8 tyX8 tyX8_ok nmX8 hown hK hP hD hS 0 rfl rfl 2 (by decide) (htb _ mw_461) (fun _ h9 => h9) rfl hin rfl (by decide +kernel) rfl rfl (Nat.le_of_ble_eq_true rfl) dX8_init_17 (fun H locs hP hD hS => ?_)
  have hP : va_P (dC, dI) classes [(h0, .inr (7, [.null, .ref q1, .ref q2, .null, .int 0])), (q1, .inl (k1, 40, .inl (fun _ => 0))), (q2, .inl (k2, 40, .inl (fun _ => 0)))] H := hP
  have hD : va_D A [(h0, .inr (7, [.null, .ref q1, .ref q2, .null, .int 0])), (q1, .inl (k1, 40, .inl (fun _ => 0))), (q2, .inl (k2, 40, .inl (fun _ => 0)))] := hD
  refine lv_aload_n hx hb dX8_init_20 rfl (lv_at hl 0 rfl) ?_
  refine lv_bipush (v := 40) hx hb dX8_init_21 (by decide) ?_
  refine va_newa (atype := .int) (a0 := (40, .inl (fun _ => 0))) hx hb (htb _ mi_56) (ty := .int) rfl hK hP hD hS hA (N' := 40) (fun _ => rfl) (by decide) (by decide) (by decide) (Nat.le_of_ble_eq_true rfl) (Nat.le_of_ble_eq_true rfl) dX8_init_23 (fun q3 k3 H hK hP hD hS => ?_)
  have hP : va_P (dC, dI) classes [(h0, .inr (7, [.null, .ref q1, .ref q2, .null, .int 0])), (q1, .inl (k1, 40, .inl (fun _ => 0))), (q2, .inl (k2, 40, .inl (fun _ => 0))), (q3, .inl (k3, 40, .inl (fun _ => 0)))] H := hP
  have hD : va_D A [(h0, .inr (7, [.null, .ref q1, .ref q2, .null, .int 0])), (q1, .inl (k1, 40, .inl (fun _ => 0))), (q2, .inl (k2, 40, .inl (fun _ => 0))), (q3, .inl (k3, 40, .inl (fun _ => 0)))] := hD
  have hK : va_K (dC, dI) classes [(k1, .int), (k2, .int), (k3, .int)] s := hK
  refine W.widen (k := 3) (n := 120) (by omega) (by omega) ?_
  refine va_putF (D := (dC, dI)) (ci := 7) (v := .ref q3) (ty := .array .int) (C := RX8) (T := TX8) (N := 5) hx hb htb iwX8 tyX8 tyX8_ok nmX8 hown hK hP hD hS 0 rfl rfl 3 (by decide) (htb _ mw_463) (fun _ h9 => h9) rfl hin rfl (by decide +kernel) rfl rfl (Nat.le_of_ble_eq_true rfl) dX8_init_25 (fun H locs hP hD hS => ?_)
  have hP : va_P (dC, dI) classes [(h0, .inr (7, [.null, .ref q1, .ref q2, .ref q3, .int 0])), (q1, .inl (k1, 40, .inl (fun _ => 0))), (q2, .inl (k2, 40, .inl (fun _ => 0))), (q3, .inl (k3, 40, .inl (fun _ => 0)))] H := hP
  have hD : va_D A [(h0, .inr (7, [.null, .ref q1, .ref q2, .ref q3, .int 0])), (q1, .inl (k1, 40, .inl (fun _ => 0))), (q2, .inl (k2, 40, .inl (fun _ => 0))), (q3, .inl (k3, 40, .inl (fun _ => 0)))] := hD
  refine lv_aload_n hx hb dX8_init_28 rfl (lv_at hl 0 rfl) ?_
  refine va_new (ci := 8) (fs := [.null, .int 0]) (C := RX9) (T := TX9) (N := 2) hx hb htb iwX9 tyX9 tyX9_ok hown (htb _ mi_456) (htb _ mi_434) (htb _ mw_8) hK hP hD hS hA rfl (fun j hj => by rcases (show j = 0 ∨ j = 1 by omega) with rfl | rfl <;> rfl) (Nat.le_of_ble_eq_true rfl) (Nat.le_of_ble_eq_true rfl) dX8_init_29 (fun q4 H hP hD hS => ?_)
  have hP : va_P (dC, dI) classes [(h0, .inr (7, [.null, .ref q1, .ref q2, .ref q3, .int 0])), (q1, .inl (k1, 40, .inl (fun _ => 0))), (q2, .inl (k2, 40, .inl (fun _ => 0))), (q3, .inl (k3, 40, .inl (fun _ => 0))), (q4, .inr (8, [.null, .int 0]))] H := hP
  have hD : va_D A [(h0, .inr (7, [.null, .ref q1, .ref q2, .ref q3, .int 0])), (q1, .inl (k1, 40, .inl (fun _ => 0))), (q2, .inl (k2, 40, .inl (fun _ => 0))), (q3, .inl (k3, 40, .inl (fun _ => 0))), (q4, .inr (8, [.null, .int 0]))] := hD
  refine W.widen (k := 4) (n := 122) (by omega) (by omega) ?_
  refine lv_dup hx hb dX8_init_32 rfl ?_
  refine lv_iload_n hx hb dX8_init_33 rfl (lv_at hl 1 rfl) ?_
  have hPc := hP.sub (ws' := [(q4, .inr (8, [.null, .int 0]))]) [4] rfl
  have hDc := hD.sub (ws' := [(q4, .inr (8, [.null, .int 0]))]) [4] (by decide) rfl
  have hKc := hK.sub (tys' := []) [] rfl
  have hFc := va_free (wc := [(q4, .inr (8, [.null, .int 0]))]) hD hS hA [4] rfl
  refine va_callv (va_runI (As := [.int 2000]) (rest := [.ref q4, .ref h0]) ⟨hx, hb, hml, hown, htb⟩ (c_X9_init_2000 l dC dI q4 H.size) (cwI 1 htb (gx_goodT mi_437) rfl rfl rfl (htb _ mw_8) (htb _ mi_457) (htb _ mi_436) rfl (by decide +kernel) ⟨Nat.le_of_ble_eq_true rfl, Nat.le_of_ble_eq_true rfl⟩) ⟨fun a U g mk q => by obtain ⟨q0, q1, qP, qK, qD⟩ := q; exact ⟨q0, q1, qP, va_K.moved (u := U) (U := U.calling g mk a) (Vm.Alike.refl U.vm) qK, qD⟩, fun U hU hW => ⟨rfl, by rw [hU], by rw [hU]; exact hPc, va_K.moved hW.alike hKc, hDc.weaken (fun _ _ _ _ => trivial)⟩⟩ rfl rfl hl.1 rfl (lv_room (Nat.le_of_ble_eq_true rfl)) dX8_init_34 ⟨Nat.le_of_ble_eq_true rfl, Nat.le_of_ble_eq_true rfl⟩) hS (fun q _ h => hFc q h) hFc (fun u t H1 locs ht hvm hw hB hz1 hk1 hS => ?_)
  obtain ⟨q5, k6, hP1, hK1, hD1⟩ := hB
  rw [ht] at hP1
  have hK1 := va_K.moved hvm.symm hK1
  obtain ⟨hP, hD⟩ := va_join (wr := [(h0, .inr (7, [.null, .ref q1, .ref q2, .ref q3, .int 0])), (q1, .inl (k1, 40, .inl (fun _ => 0))), (q2, .inl (k2, 40, .inl (fun _ => 0))), (q3, .inl (k3, 40, .inl (fun _ => 0)))]) (w1 := [(q4, .inr (8, [.ref q5, .int 0])), (q5, .inl (k6, 2000, .inl (fun _ => 0)))]) hP hD [4] [0, 1, 2, 3] rfl rfl (by decide) (by decide) hk1 hFc hP1 hD1
  have hK := (hK.sub (tys' := [(k1, .int), (k2, .int), (k3, .int)]) [0, 1, 2] rfl).app hK1
  generalize H1 = H at hP hS ⊢
  have hP : va_P (dC, dI) classes [(h0, .inr (7, [.null, .ref q1, .ref q2, .ref q3, .int 0])), (q1, .inl (k1, 40, .inl (fun _ => 0))), (q2, .inl (k2, 40, .inl (fun _ => 0))), (q3, .inl (k3, 40, .inl (fun _ => 0))), (q4, .inr (8, [.ref q5, .int 0])), (q5, .inl (k6, 2000, .inl (fun _ => 0)))] H := hP
  have hD : va_D A [(h0, .inr (7, [.null, .ref q1, .ref q2, .ref q3, .int 0])), (q1, .inl (k1, 40, .inl (fun _ => 0))), (q2, .inl (k2, 40, .inl (fun _ => 0))), (q3, .inl (k3, 40, .inl (fun _ => 0))), (q4, .inr (8, [.ref q5, .int 0])), (q5, .inl (k6, 2000, .inl (fun _ => 0)))] := hD
  have hK : va_K (dC, dI) classes [(k1, .int), (k2, .int), (k3, .int), (k6, .byte)] s := hK
  refine W.widen (k := 5) (n := 2122) (by omega) (by omega) ?_
  refine va_putF (D := (dC, dI)) (ci := 7) (v := .ref q4) (ty := .object "PlainSealModel$Text") (C := RX8) (T := TX8) (N := 5) hx hb htb iwX8 tyX8 tyX8_ok nmX8 hown hK hP hD hS 0 rfl rfl 0 (by decide) (htb _ mw_458) (fun _ h9 => h9) rfl hin rfl (by decide +kernel) rfl rfl (Nat.le_of_ble_eq_true rfl) dX8_init_37 (fun H locs hP hD hS => ?_)
  have hP : va_P (dC, dI) classes [(h0, .inr (7, [.ref q4, .ref q1, .ref q2, .ref q3, .int 0])), (q1, .inl (k1, 40, .inl (fun _ => 0))), (q2, .inl (k2, 40, .inl (fun _ => 0))), (q3, .inl (k3, 40, .inl (fun _ => 0))), (q4, .inr (8, [.ref q5, .int 0])), (q5, .inl (k6, 2000, .inl (fun _ => 0)))] H := hP
  have hD : va_D A [(h0, .inr (7, [.ref q4, .ref q1, .ref q2, .ref q3, .int 0])), (q1, .inl (k1, 40, .inl (fun _ => 0))), (q2, .inl (k2, 40, .inl (fun _ => 0))), (q3, .inl (k3, 40, .inl (fun _ => 0))), (q4, .inr (8, [.ref q5, .int 0])), (q5, .inl (k6, 2000, .inl (fun _ => 0)))] := hD
  have hP9 := hP.sub (ws' := [(h0, .inr (7, [.ref q4, .ref q1, .ref q2, .ref q3, .int 0])), (q1, .inl (k1, 40, .inl (fun _ => 0))), (q2, .inl (k2, 40, .inl (fun _ => 0))), (q3, .inl (k3, 40, .inl (fun _ => 0))), (q4, .inr (8, [.ref q5, .int 0])), (q5, .inl (k6, 2000, .inl (fun _ => 0)))]) [0, 1, 2, 3, 4, 5] rfl
  have hD9 := hD.sub (ws' := [(h0, .inr (7, [.ref q4, .ref q1, .ref q2, .ref q3, .int 0])), (q1, .inl (k1, 40, .inl (fun _ => 0))), (q2, .inl (k2, 40, .inl (fun _ => 0))), (q3, .inl (k3, 40, .inl (fun _ => 0))), (q4, .inr (8, [.ref q5, .int 0])), (q5, .inl (k6, 2000, .inl (fun _ => 0)))]) [0, 1, 2, 3, 4, 5] (by decide) rfl
  have hK9 := hK.sub (tys' := [(k1, .int), (k2, .int), (k3, .int), (k6, .byte)]) [0, 1, 2, 3] rfl
  exact W.vret hx hb hr (fun t ht hW => ⟨⟨(), rfl, trivial, q1, k1, q2, k2, q3, k3, q4, q5, k6, by rw [ht]; exact hP9, va_K.moved hW.alike hK9, hD9⟩, hS.F ht⟩) hS.2.2 dX8_init_40

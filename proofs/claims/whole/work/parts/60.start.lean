set_option maxHeartbeats 8000000 in
set_option maxRecDepth 100000 in
theorem whole_start {p : Program} {e : Env} {s : State} {m : MethodId} {below : List Frame} {meth : Method} {c : Code} (l : Launch) {b L : Nat} {xs : Nat → Int32} (hL : L ≤ 3072) (C0 : lw_At p s m meth c b L xs) : W p l e room_1 s m #[Value.ref b] below meth c s.heap [] 0 0 (lw_Z below #[Value.ref b] s) (entryFrame m ([Value.ref b] : List Value).toArray 4) := by
  obtain ⟨hx, hb, hr, hml, hown, hts, hX, hbl, hlocks, hgv⟩ := id C0
  have htb : ∀ w ∈ gx_TB, w.before #[Value.ref b] s = true := fun w hw => hts w (List.mem_filter.mp hw).1
  have hown : s.vm.findClass RL = some m.cls := hown
  have hA : ∀ q : Nat, s.heap.size ≤ q → (fun q : Nat => s.heap.size ≤ q) q := fun _ h => h
  obtain ⟨cC0, iS0, hKn0⟩ := u_known (C := RX0) (T := TX0) (N := 2) (n := 2) htb iwX0 (htb _ mi_25)
  obtain ⟨cC1, iS1, hKn1⟩ := u_known (C := RX1) (T := TX1) (N := 3) (n := 3) htb iwX1 (htb _ mi_39)
  obtain ⟨cC2, iS2, hKn2⟩ := u_known (C := RX2) (T := TX2) (N := 4) (n := 4) htb iwX2 (htb _ mi_86)
  obtain ⟨cC3, iS3, hKn3⟩ := u_known (C := RX3) (T := TX3) (N := 3) (n := 3) htb iwX3 (htb _ mi_70)
  obtain ⟨cC4, iS4, hKn4⟩ := u_known (C := RX5) (T := TX5) (N := 1) (n := 1) htb iwX5 (htb _ mi_58)
  obtain ⟨cC5, iS5, hKn5⟩ := u_known (C := RX6) (T := TX6) (N := 6) (n := 6) htb iwX6 (htb _ mi_17)
  obtain ⟨cC6, iS6, hKn6⟩ := u_known (C := RX7) (T := TX7) (N := 7) (n := 7) htb iwX7 (htb _ mi_479)
  obtain ⟨cC7, iS7, hKn7⟩ := u_known (C := RX8) (T := TX8) (N := 5) (n := 5) htb iwX8 (htb _ mi_451)
  obtain ⟨cC8, iS8, hKn8⟩ := u_known (C := RX9) (T := TX9) (N := 2) (n := 2) htb iwX9 (htb _ mi_434)
  obtain ⟨cC9, iS9, hKn9⟩ := u_known (C := RX10) (T := TX10) (N := 28) (n := 28) htb iwX10 (htb _ mi_428)
  obtain ⟨dC, dI, hKc⟩ : ∃ (dC : Nat → ClassId) (dI : Nat → Nat → Nat), ∀ (k : Nat) (q : vw_C), classes[k]? = some q → u_Kn s q.1 q.2.1 q.2.2 (dC k) (dI k) := by
    refine ⟨fun k => if k = 0 then cC0 else if k = 1 then cC1 else if k = 2 then cC2 else if k = 3 then cC3 else if k = 4 then cC4 else if k = 5 then cC5 else if k = 6 then cC6 else if k = 7 then cC7 else if k = 8 then cC8 else cC9, fun k => if k = 0 then iS0 else if k = 1 then iS1 else if k = 2 then iS2 else if k = 3 then iS3 else if k = 4 then iS4 else if k = 5 then iS5 else if k = 6 then iS6 else if k = 7 then iS7 else if k = 8 then iS8 else iS9, ?_⟩
    intro k q hq
    match k, hq with
    | 0, hq => cases hq; exact hKn0
    | 1, hq => cases hq; exact hKn1
    | 2, hq => cases hq; exact hKn2
    | 3, hq => cases hq; exact hKn3
    | 4, hq => cases hq; exact hKn4
    | 5, hq => cases hq; exact hKn5
    | 6, hq => cases hq; exact hKn6
    | 7, hq => cases hq; exact hKn7
    | 8, hq => cases hq; exact hKn8
    | 9, hq => cases hq; exact hKn9
    | k + 10, hq => simp [classes] at hq
  have hS : va_S (fun q : Nat => s.heap.size ≤ q) s.heap s.heap [] := va_S.rf
  have hK : va_K (dC, dI) classes [] s := ⟨hKc, fun k q h => by simp at h⟩
  have hP : va_P (dC, dI) classes [] s.heap := fun k q h => by simp at h
  have hD : va_D (fun q : Nat => s.heap.size ≤ q) [] := ⟨fun i j p q h => by simp at h, fun k q h => by simp at h⟩
  have hl := lv_entry ([.ref b]) (n := 4) (Nat.le_of_ble_eq_true rfl)
  rw [lg_entry_eq]
  generalize (lg_sl ([.ref b]) ++ List.replicate (4 - (lg_sl ([.ref b])).length) Slot.unset).toArray = ls at hl ⊢
  have hl : lv_has ls 4 [(0, .ref b)] := hl
  refine va_new (ci := 5) (fs := [.null, .null, .null, .null, .null, .null]) (C := RX6) (T := TX6) (N := 6) hx hb htb iwX6 tyX6 tyX6_ok hown (htb _ mi_16) (htb _ mi_17) (htb _ mw_1) hK hP hD hS hA rfl (fun j hj => by rcases (show j = 0 ∨ j = 1 ∨ j = 2 ∨ j = 3 ∨ j = 4 ∨ j = 5 by omega) with rfl | rfl | rfl | rfl | rfl | rfl <;> rfl) (Nat.le_of_ble_eq_true rfl) (Nat.le_of_ble_eq_true rfl) dL_law_0 (fun qx H hP hD hS => ?_)
  have hP : va_P (dC, dI) classes [(qx, .inr (5, [.null, .null, .null, .null, .null, .null]))] H := hP
  have hD : va_D (fun q : Nat => s.heap.size ≤ q) [(qx, .inr (5, [.null, .null, .null, .null, .null, .null]))] := hD
  refine W.widen (k := 1) (n := 6) (by omega) (by omega) ?_
  refine lv_dup hx hb dL_law_3 rfl ?_
  have hPc := hP.sub (ws' := [(qx, .inr (5, [.null, .null, .null, .null, .null, .null]))]) [0] rfl
  have hDc := hD.sub (ws' := [(qx, .inr (5, [.null, .null, .null, .null, .null, .null]))]) [0] (by decide) rfl
  have hKc := hK.sub (tys' := []) [] rfl
  have hFc := va_free (wc := [(qx, .inr (5, [.null, .null, .null, .null, .null, .null]))]) hD hS hA [0] rfl
  refine va_callv (va_runI (As := []) (rest := [.ref qx]) ⟨hx, hb, hml, hown, htb⟩ (c_X6_init l dC dI qx H.size) (cwI 0 htb (gx_goodT mi_20) rfl rfl rfl (htb _ mw_1) (htb _ mi_18) (htb _ mi_19) rfl (by decide +kernel) ⟨Nat.le_of_ble_eq_true rfl, Nat.le_of_ble_eq_true rfl⟩) ⟨fun a U g mk q => by obtain ⟨q0, q1, qP, qK, qD⟩ := q; exact ⟨q0, q1, qP, va_K.moved (u := U) (U := U.calling g mk a) (Vm.Alike.refl U.vm) qK, qD⟩, fun U hU hW => ⟨rfl, by rw [hU], by rw [hU]; exact hPc, va_K.moved hW.alike hKc, hDc.weaken (fun _ _ _ _ => trivial)⟩⟩ rfl rfl hl.1 rfl (lv_room (Nat.le_of_ble_eq_true rfl)) dL_law_4 ⟨Nat.le_of_ble_eq_true rfl, Nat.le_of_ble_eq_true rfl⟩) hS (fun q _ h => hFc q h) hFc (fun u t H1 locs ht hvm hw hB hz1 hk1 hS => ?_)
  obtain ⟨aq1, aq2, ak3, aq4, aq5, ak6, aq7, aq8, aq9, ak10, aq11, ak12, aq13, aq14, aq15, ak16, aq17, aq18, ak19, aq20, ak21, aq22, ak23, aq24, aq25, ak26, aq27, ak28, aq29, ak30, aq31, ak32, hP1, hK1, hD1⟩ := hB
  rw [ht] at hP1
  have hK1 := va_K.moved hvm.symm hK1
  obtain ⟨hP, hD⟩ := va_join (wr := []) (w1 := [(qx, .inr (5, [.ref aq1, .ref aq4, .ref aq7, .ref aq13, .ref aq17, .ref aq24])), (aq1, .inr (0, [.ref aq2, .int 0])), (aq2, .inl (ak3, 2000, .inl (fun _ => 0))), (aq4, .inr (0, [.ref aq5, .int 0])), (aq5, .inl (ak6, 2000, .inl (fun _ => 0))), (aq7, .inr (1, [.ref aq8, .ref aq11, .int 0])), (aq8, .inr (0, [.ref aq9, .int 0])), (aq9, .inl (ak10, 2000, .inl (fun _ => 0))), (aq11, .inl (ak12, 21, .inl (fun _ => 0))), (aq13, .inr (4, [.ref aq14])), (aq14, .inr (0, [.ref aq15, .int 0])), (aq15, .inl (ak16, 2000, .inl (fun _ => 0))), (aq17, .inr (3, [.ref aq18, .ref aq20, .ref aq22])), (aq18, .inl (ak19, 8, .inl (fun _ => 0))), (aq20, .inl (ak21, 8, .inl (fun _ => 0))), (aq22, .inl (ak23, 64, .inl (fun _ => 0))), (aq24, .inr (2, [.ref aq25, .ref aq27, .ref aq29, .ref aq31])), (aq25, .inl (ak26, 32, .inl (fun _ => 0))), (aq27, .inl (ak28, 32, .inl (fun _ => 0))), (aq29, .inl (ak30, 32, .inl (fun _ => 0))), (aq31, .inl (ak32, 64, .inl (fun _ => 0)))]) hP hD [0] [] rfl rfl (by decide) (by decide) hk1 hFc hP1 hD1
  have hK := (hK.sub (tys' := []) [] rfl).app hK1
  generalize H1 = H at hP hS ⊢
  have hP : va_P (dC, dI) classes [(qx, .inr (5, [.ref aq1, .ref aq4, .ref aq7, .ref aq13, .ref aq17, .ref aq24])), (aq1, .inr (0, [.ref aq2, .int 0])), (aq2, .inl (ak3, 2000, .inl (fun _ => 0))), (aq4, .inr (0, [.ref aq5, .int 0])), (aq5, .inl (ak6, 2000, .inl (fun _ => 0))), (aq7, .inr (1, [.ref aq8, .ref aq11, .int 0])), (aq8, .inr (0, [.ref aq9, .int 0])), (aq9, .inl (ak10, 2000, .inl (fun _ => 0))), (aq11, .inl (ak12, 21, .inl (fun _ => 0))), (aq13, .inr (4, [.ref aq14])), (aq14, .inr (0, [.ref aq15, .int 0])), (aq15, .inl (ak16, 2000, .inl (fun _ => 0))), (aq17, .inr (3, [.ref aq18, .ref aq20, .ref aq22])), (aq18, .inl (ak19, 8, .inl (fun _ => 0))), (aq20, .inl (ak21, 8, .inl (fun _ => 0))), (aq22, .inl (ak23, 64, .inl (fun _ => 0))), (aq24, .inr (2, [.ref aq25, .ref aq27, .ref aq29, .ref aq31])), (aq25, .inl (ak26, 32, .inl (fun _ => 0))), (aq27, .inl (ak28, 32, .inl (fun _ => 0))), (aq29, .inl (ak30, 32, .inl (fun _ => 0))), (aq31, .inl (ak32, 64, .inl (fun _ => 0)))] H := hP
  have hD : va_D (fun q : Nat => s.heap.size ≤ q) [(qx, .inr (5, [.ref aq1, .ref aq4, .ref aq7, .ref aq13, .ref aq17, .ref aq24])), (aq1, .inr (0, [.ref aq2, .int 0])), (aq2, .inl (ak3, 2000, .inl (fun _ => 0))), (aq4, .inr (0, [.ref aq5, .int 0])), (aq5, .inl (ak6, 2000, .inl (fun _ => 0))), (aq7, .inr (1, [.ref aq8, .ref aq11, .int 0])), (aq8, .inr (0, [.ref aq9, .int 0])), (aq9, .inl (ak10, 2000, .inl (fun _ => 0))), (aq11, .inl (ak12, 21, .inl (fun _ => 0))), (aq13, .inr (4, [.ref aq14])), (aq14, .inr (0, [.ref aq15, .int 0])), (aq15, .inl (ak16, 2000, .inl (fun _ => 0))), (aq17, .inr (3, [.ref aq18, .ref aq20, .ref aq22])), (aq18, .inl (ak19, 8, .inl (fun _ => 0))), (aq20, .inl (ak21, 8, .inl (fun _ => 0))), (aq22, .inl (ak23, 64, .inl (fun _ => 0))), (aq24, .inr (2, [.ref aq25, .ref aq27, .ref aq29, .ref aq31])), (aq25, .inl (ak26, 32, .inl (fun _ => 0))), (aq27, .inl (ak28, 32, .inl (fun _ => 0))), (aq29, .inl (ak30, 32, .inl (fun _ => 0))), (aq31, .inl (ak32, 64, .inl (fun _ => 0)))] := hD
  have hK : va_K (dC, dI) classes [(ak3, .byte), (ak6, .byte), (ak10, .byte), (ak12, .int), (ak16, .byte), (ak19, .int), (ak21, .int), (ak23, .int), (ak26, .int), (ak28, .int), (ak30, .int), (ak32, .int)] s := hK
  refine W.widen (k := 21) (n := 8286) (by omega) (by omega) ?_
  refine lv_astore_n (lv' := [(1, .ref qx), (0, .ref b)]) hx hb dL_law_7 rfl hl (by decide) rfl (fun ls hl => ?_)
  refine va_new (ci := 9) (fs := [.null, .int 0, .int 0, .null, .null, .null, .null, .null, .null, .null, .null, .int 0, .int 0, .int 0, .int 0, .null, .null, .null, .null, .null, .null, .null, .null, .null, .null, .null, .null, .null]) (C := RX10) (T := TX10) (N := 28) hx hb htb iwX10 tyX10 tyX10_ok hown (htb _ mi_427) (htb _ mi_428) (htb _ mw_7) hK hP hD hS hA rfl (fun j hj => by rcases (show j = 0 ∨ j = 1 ∨ j = 2 ∨ j = 3 ∨ j = 4 ∨ j = 5 ∨ j = 6 ∨ j = 7 ∨ j = 8 ∨ j = 9 ∨ j = 10 ∨ j = 11 ∨ j = 12 ∨ j = 13 ∨ j = 14 ∨ j = 15 ∨ j = 16 ∨ j = 17 ∨ j = 18 ∨ j = 19 ∨ j = 20 ∨ j = 21 ∨ j = 22 ∨ j = 23 ∨ j = 24 ∨ j = 25 ∨ j = 26 ∨ j = 27 by omega) with rfl | rfl | rfl | rfl | rfl | rfl | rfl | rfl | rfl | rfl | rfl | rfl | rfl | rfl | rfl | rfl | rfl | rfl | rfl | rfl | rfl | rfl | rfl | rfl | rfl | rfl | rfl | rfl <;> rfl) (Nat.le_of_ble_eq_true rfl) (Nat.le_of_ble_eq_true rfl) dL_law_8 (fun qm H hP hD hS => ?_)
  have hP : va_P (dC, dI) classes [(qx, .inr (5, [.ref aq1, .ref aq4, .ref aq7, .ref aq13, .ref aq17, .ref aq24])), (aq1, .inr (0, [.ref aq2, .int 0])), (aq2, .inl (ak3, 2000, .inl (fun _ => 0))), (aq4, .inr (0, [.ref aq5, .int 0])), (aq5, .inl (ak6, 2000, .inl (fun _ => 0))), (aq7, .inr (1, [.ref aq8, .ref aq11, .int 0])), (aq8, .inr (0, [.ref aq9, .int 0])), (aq9, .inl (ak10, 2000, .inl (fun _ => 0))), (aq11, .inl (ak12, 21, .inl (fun _ => 0))), (aq13, .inr (4, [.ref aq14])), (aq14, .inr (0, [.ref aq15, .int 0])), (aq15, .inl (ak16, 2000, .inl (fun _ => 0))), (aq17, .inr (3, [.ref aq18, .ref aq20, .ref aq22])), (aq18, .inl (ak19, 8, .inl (fun _ => 0))), (aq20, .inl (ak21, 8, .inl (fun _ => 0))), (aq22, .inl (ak23, 64, .inl (fun _ => 0))), (aq24, .inr (2, [.ref aq25, .ref aq27, .ref aq29, .ref aq31])), (aq25, .inl (ak26, 32, .inl (fun _ => 0))), (aq27, .inl (ak28, 32, .inl (fun _ => 0))), (aq29, .inl (ak30, 32, .inl (fun _ => 0))), (aq31, .inl (ak32, 64, .inl (fun _ => 0))), (qm, .inr (9, [.null, .int 0, .int 0, .null, .null, .null, .null, .null, .null, .null, .null, .int 0, .int 0, .int 0, .int 0, .null, .null, .null, .null, .null, .null, .null, .null, .null, .null, .null, .null, .null]))] H := hP
  have hD : va_D (fun q : Nat => s.heap.size ≤ q) [(qx, .inr (5, [.ref aq1, .ref aq4, .ref aq7, .ref aq13, .ref aq17, .ref aq24])), (aq1, .inr (0, [.ref aq2, .int 0])), (aq2, .inl (ak3, 2000, .inl (fun _ => 0))), (aq4, .inr (0, [.ref aq5, .int 0])), (aq5, .inl (ak6, 2000, .inl (fun _ => 0))), (aq7, .inr (1, [.ref aq8, .ref aq11, .int 0])), (aq8, .inr (0, [.ref aq9, .int 0])), (aq9, .inl (ak10, 2000, .inl (fun _ => 0))), (aq11, .inl (ak12, 21, .inl (fun _ => 0))), (aq13, .inr (4, [.ref aq14])), (aq14, .inr (0, [.ref aq15, .int 0])), (aq15, .inl (ak16, 2000, .inl (fun _ => 0))), (aq17, .inr (3, [.ref aq18, .ref aq20, .ref aq22])), (aq18, .inl (ak19, 8, .inl (fun _ => 0))), (aq20, .inl (ak21, 8, .inl (fun _ => 0))), (aq22, .inl (ak23, 64, .inl (fun _ => 0))), (aq24, .inr (2, [.ref aq25, .ref aq27, .ref aq29, .ref aq31])), (aq25, .inl (ak26, 32, .inl (fun _ => 0))), (aq27, .inl (ak28, 32, .inl (fun _ => 0))), (aq29, .inl (ak30, 32, .inl (fun _ => 0))), (aq31, .inl (ak32, 64, .inl (fun _ => 0))), (qm, .inr (9, [.null, .int 0, .int 0, .null, .null, .null, .null, .null, .null, .null, .null, .int 0, .int 0, .int 0, .int 0, .null, .null, .null, .null, .null, .null, .null, .null, .null, .null, .null, .null, .null]))] := hD
  refine W.widen (k := 22) (n := 8314) (by omega) (by omega) ?_
  refine lv_dup hx hb dL_law_11 rfl ?_
  have hPc := hP.sub (ws' := [(qm, .inr (9, [.null, .int 0, .int 0, .null, .null, .null, .null, .null, .null, .null, .null, .int 0, .int 0, .int 0, .int 0, .null, .null, .null, .null, .null, .null, .null, .null, .null, .null, .null, .null, .null]))]) [21] rfl
  have hDc := hD.sub (ws' := [(qm, .inr (9, [.null, .int 0, .int 0, .null, .null, .null, .null, .null, .null, .null, .null, .int 0, .int 0, .int 0, .int 0, .null, .null, .null, .null, .null, .null, .null, .null, .null, .null, .null, .null, .null]))]) [21] (by decide) rfl
  have hKc := hK.sub (tys' := []) [] rfl
  have hFc := va_free (wc := [(qm, .inr (9, [.null, .int 0, .int 0, .null, .null, .null, .null, .null, .null, .null, .null, .int 0, .int 0, .int 0, .int 0, .null, .null, .null, .null, .null, .null, .null, .null, .null, .null, .null, .null, .null]))]) hD hS hA [21] rfl
  refine va_callv (va_runI (As := []) (rest := [.ref qm]) ⟨hx, hb, hml, hown, htb⟩ (c_X10_init l dC dI qm H.size) (cwI 0 htb (gx_goodT mi_431) rfl rfl rfl (htb _ mw_7) (htb _ mi_429) (htb _ mi_430) rfl (by decide +kernel) ⟨Nat.le_of_ble_eq_true rfl, Nat.le_of_ble_eq_true rfl⟩) ⟨fun a U g mk q => by obtain ⟨q0, q1, qP, qK, qD⟩ := q; exact ⟨q0, q1, qP, va_K.moved (u := U) (U := U.calling g mk a) (Vm.Alike.refl U.vm) qK, qD⟩, fun U hU hW => ⟨rfl, by rw [hU], by rw [hU]; exact hPc, va_K.moved hW.alike hKc, hDc.weaken (fun _ _ _ _ => trivial)⟩⟩ rfl rfl hl.1 rfl (lv_room (Nat.le_of_ble_eq_true rfl)) dL_law_12 ⟨Nat.le_of_ble_eq_true rfl, Nat.le_of_ble_eq_true rfl⟩) hS (fun q _ h => hFc q h) hFc (fun u t H1 locs ht hvm hw hB hz1 hk1 hS => ?_)
  obtain ⟨zq1, zk1, zq2, zk2, zq3, zk3, zq4, zk4, zq5, zk5, zq6, zk6, zq7, zk7, zq8, zk8, zq9, zk9, zq10, zq11, zk12, zq13, zq14, zk15, zq16, zk17, zq18, zk19, zq20, zq21, zk22, zq23, zq24, zk25, zq26, zk27, zq28, zk29, zq30, zq31, zk32, zq33, zk33, zq34, zq35, zk36, zq37, zk38, zq39, zk40, zq41, zk42, zq43, zk44, zf45, zf46, zq47, zk47, zq48, zk48, zq49, zk49, zq50, zk50, zq51, zk51, zq52, zk52, zq53, zk53, zq54, zk54, hfxm_0, hfxm_1, hP1, hK1, hD1⟩ := hB
  rw [ht] at hP1
  have hK1 := va_K.moved hvm.symm hK1
  obtain ⟨hP, hD⟩ := va_join (wr := [(qx, .inr (5, [.ref aq1, .ref aq4, .ref aq7, .ref aq13, .ref aq17, .ref aq24])), (aq1, .inr (0, [.ref aq2, .int 0])), (aq2, .inl (ak3, 2000, .inl (fun _ => 0))), (aq4, .inr (0, [.ref aq5, .int 0])), (aq5, .inl (ak6, 2000, .inl (fun _ => 0))), (aq7, .inr (1, [.ref aq8, .ref aq11, .int 0])), (aq8, .inr (0, [.ref aq9, .int 0])), (aq9, .inl (ak10, 2000, .inl (fun _ => 0))), (aq11, .inl (ak12, 21, .inl (fun _ => 0))), (aq13, .inr (4, [.ref aq14])), (aq14, .inr (0, [.ref aq15, .int 0])), (aq15, .inl (ak16, 2000, .inl (fun _ => 0))), (aq17, .inr (3, [.ref aq18, .ref aq20, .ref aq22])), (aq18, .inl (ak19, 8, .inl (fun _ => 0))), (aq20, .inl (ak21, 8, .inl (fun _ => 0))), (aq22, .inl (ak23, 64, .inl (fun _ => 0))), (aq24, .inr (2, [.ref aq25, .ref aq27, .ref aq29, .ref aq31])), (aq25, .inl (ak26, 32, .inl (fun _ => 0))), (aq27, .inl (ak28, 32, .inl (fun _ => 0))), (aq29, .inl (ak30, 32, .inl (fun _ => 0))), (aq31, .inl (ak32, 64, .inl (fun _ => 0)))]) (w1 := [(qm, .inr (9, [.ref zq1, .int 0, .int 0, .ref zq2, .ref zq3, .ref zq4, .ref zq5, .ref zq6, .ref zq7, .ref zq8, .ref zq9, .int 0, .int 0, .int 0, .int 0, .ref zq10, .ref zq13, .ref zq23, .ref zq33, .ref zq34, .ref zq47, .ref zq48, .ref zq49, .ref zq50, .ref zq51, .ref zq52, .ref zq53, .ref zq54])), (zq1, .inl (zk1, 2000, .inl (fun _ => 0))), (zq2, .inl (zk2, 4000, .inl (fun _ => 0))), (zq3, .inl (zk3, 2000, .inl (fun _ => 0))), (zq4, .inl (zk4, 21, .inl (fun _ => 0))), (zq5, .inl (zk5, 21, .inl (fun _ => 0))), (zq6, .inl (zk6, 21, .inl (fun _ => 0))), (zq7, .inl (zk7, 21, .inl (fun _ => 0))), (zq8, .inl (zk8, 21, .inl (fun _ => 0))), (zq9, .inl (zk9, 21, .inl (fun _ => 0))), (zq10, .inr (8, [.ref zq11, .int 0])), (zq11, .inl (zk12, 4000, .inl (fun _ => 0))), (zq13, .inr (7, [.ref zq20, .ref zq14, .ref zq16, .ref zq18, .int 0])), (zq14, .inl (zk15, 40, .inl (fun _ => 0))), (zq16, .inl (zk17, 40, .inl (fun _ => 0))), (zq18, .inl (zk19, 40, .inl (fun _ => 0))), (zq20, .inr (8, [.ref zq21, .int 0])), (zq21, .inl (zk22, 2000, .inl (fun _ => 0))), (zq23, .inr (7, [.ref zq30, .ref zq24, .ref zq26, .ref zq28, .int 0])), (zq24, .inl (zk25, 40, .inl (fun _ => 0))), (zq26, .inl (zk27, 40, .inl (fun _ => 0))), (zq28, .inl (zk29, 40, .inl (fun _ => 0))), (zq30, .inr (8, [.ref zq31, .int 0])), (zq31, .inl (zk32, 2000, .inl (fun _ => 0))), (zq33, .inl (zk33, 900, .inl (fun _ => 0))), (zq34, .inr (6, [.ref zq35, .ref zq37, .ref zq39, .ref zq41, .ref zq43, .int 0, .long 0])), (zq35, .inl (zk36, 8, .inl zf45)), (zq37, .inl (zk38, 8, .inl (fun _ => 0))), (zq39, .inl (zk40, 64, .inl (fun _ => 0))), (zq41, .inl (zk42, 64, .inl zf46)), (zq43, .inl (zk44, 64, .inl (fun _ => 0))), (zq47, .inl (zk47, 33, .inl (fun _ => 0))), (zq48, .inl (zk48, 33, .inl (fun _ => 0))), (zq49, .inl (zk49, 33, .inl (fun _ => 0))), (zq50, .inl (zk50, 66, .inl (fun _ => 0))), (zq51, .inl (zk51, 33, .inl (fun _ => 0))), (zq52, .inl (zk52, 32, .inl (fun _ => 0))), (zq53, .inl (zk53, 64, .inl (fun _ => 0))), (zq54, .inl (zk54, 64, .inl (fun _ => 0)))]) hP hD [21] [0, 1, 2, 3, 4, 5, 6, 7, 8, 9, 10, 11, 12, 13, 14, 15, 16, 17, 18, 19, 20] rfl rfl (by decide) (by decide) hk1 hFc hP1 hD1
  have hK := (hK.sub (tys' := [(ak3, .byte), (ak6, .byte), (ak10, .byte), (ak12, .int), (ak16, .byte), (ak19, .int), (ak21, .int), (ak23, .int), (ak26, .int), (ak28, .int), (ak30, .int), (ak32, .int)]) [0, 1, 2, 3, 4, 5, 6, 7, 8, 9, 10, 11] rfl).app hK1
  generalize H1 = H at hP hS ⊢
  have hP : va_P (dC, dI) classes [(qx, .inr (5, [.ref aq1, .ref aq4, .ref aq7, .ref aq13, .ref aq17, .ref aq24])), (aq1, .inr (0, [.ref aq2, .int 0])), (aq2, .inl (ak3, 2000, .inl (fun _ => 0))), (aq4, .inr (0, [.ref aq5, .int 0])), (aq5, .inl (ak6, 2000, .inl (fun _ => 0))), (aq7, .inr (1, [.ref aq8, .ref aq11, .int 0])), (aq8, .inr (0, [.ref aq9, .int 0])), (aq9, .inl (ak10, 2000, .inl (fun _ => 0))), (aq11, .inl (ak12, 21, .inl (fun _ => 0))), (aq13, .inr (4, [.ref aq14])), (aq14, .inr (0, [.ref aq15, .int 0])), (aq15, .inl (ak16, 2000, .inl (fun _ => 0))), (aq17, .inr (3, [.ref aq18, .ref aq20, .ref aq22])), (aq18, .inl (ak19, 8, .inl (fun _ => 0))), (aq20, .inl (ak21, 8, .inl (fun _ => 0))), (aq22, .inl (ak23, 64, .inl (fun _ => 0))), (aq24, .inr (2, [.ref aq25, .ref aq27, .ref aq29, .ref aq31])), (aq25, .inl (ak26, 32, .inl (fun _ => 0))), (aq27, .inl (ak28, 32, .inl (fun _ => 0))), (aq29, .inl (ak30, 32, .inl (fun _ => 0))), (aq31, .inl (ak32, 64, .inl (fun _ => 0))), (qm, .inr (9, [.ref zq1, .int 0, .int 0, .ref zq2, .ref zq3, .ref zq4, .ref zq5, .ref zq6, .ref zq7, .ref zq8, .ref zq9, .int 0, .int 0, .int 0, .int 0, .ref zq10, .ref zq13, .ref zq23, .ref zq33, .ref zq34, .ref zq47, .ref zq48, .ref zq49, .ref zq50, .ref zq51, .ref zq52, .ref zq53, .ref zq54])), (zq1, .inl (zk1, 2000, .inl (fun _ => 0))), (zq2, .inl (zk2, 4000, .inl (fun _ => 0))), (zq3, .inl (zk3, 2000, .inl (fun _ => 0))), (zq4, .inl (zk4, 21, .inl (fun _ => 0))), (zq5, .inl (zk5, 21, .inl (fun _ => 0))), (zq6, .inl (zk6, 21, .inl (fun _ => 0))), (zq7, .inl (zk7, 21, .inl (fun _ => 0))), (zq8, .inl (zk8, 21, .inl (fun _ => 0))), (zq9, .inl (zk9, 21, .inl (fun _ => 0))), (zq10, .inr (8, [.ref zq11, .int 0])), (zq11, .inl (zk12, 4000, .inl (fun _ => 0))), (zq13, .inr (7, [.ref zq20, .ref zq14, .ref zq16, .ref zq18, .int 0])), (zq14, .inl (zk15, 40, .inl (fun _ => 0))), (zq16, .inl (zk17, 40, .inl (fun _ => 0))), (zq18, .inl (zk19, 40, .inl (fun _ => 0))), (zq20, .inr (8, [.ref zq21, .int 0])), (zq21, .inl (zk22, 2000, .inl (fun _ => 0))), (zq23, .inr (7, [.ref zq30, .ref zq24, .ref zq26, .ref zq28, .int 0])), (zq24, .inl (zk25, 40, .inl (fun _ => 0))), (zq26, .inl (zk27, 40, .inl (fun _ => 0))), (zq28, .inl (zk29, 40, .inl (fun _ => 0))), (zq30, .inr (8, [.ref zq31, .int 0])), (zq31, .inl (zk32, 2000, .inl (fun _ => 0))), (zq33, .inl (zk33, 900, .inl (fun _ => 0))), (zq34, .inr (6, [.ref zq35, .ref zq37, .ref zq39, .ref zq41, .ref zq43, .int 0, .long 0])), (zq35, .inl (zk36, 8, .inl zf45)), (zq37, .inl (zk38, 8, .inl (fun _ => 0))), (zq39, .inl (zk40, 64, .inl (fun _ => 0))), (zq41, .inl (zk42, 64, .inl zf46)), (zq43, .inl (zk44, 64, .inl (fun _ => 0))), (zq47, .inl (zk47, 33, .inl (fun _ => 0))), (zq48, .inl (zk48, 33, .inl (fun _ => 0))), (zq49, .inl (zk49, 33, .inl (fun _ => 0))), (zq50, .inl (zk50, 66, .inl (fun _ => 0))), (zq51, .inl (zk51, 33, .inl (fun _ => 0))), (zq52, .inl (zk52, 32, .inl (fun _ => 0))), (zq53, .inl (zk53, 64, .inl (fun _ => 0))), (zq54, .inl (zk54, 64, .inl (fun _ => 0)))] H := hP
  have hD : va_D (fun q : Nat => s.heap.size ≤ q) [(qx, .inr (5, [.ref aq1, .ref aq4, .ref aq7, .ref aq13, .ref aq17, .ref aq24])), (aq1, .inr (0, [.ref aq2, .int 0])), (aq2, .inl (ak3, 2000, .inl (fun _ => 0))), (aq4, .inr (0, [.ref aq5, .int 0])), (aq5, .inl (ak6, 2000, .inl (fun _ => 0))), (aq7, .inr (1, [.ref aq8, .ref aq11, .int 0])), (aq8, .inr (0, [.ref aq9, .int 0])), (aq9, .inl (ak10, 2000, .inl (fun _ => 0))), (aq11, .inl (ak12, 21, .inl (fun _ => 0))), (aq13, .inr (4, [.ref aq14])), (aq14, .inr (0, [.ref aq15, .int 0])), (aq15, .inl (ak16, 2000, .inl (fun _ => 0))), (aq17, .inr (3, [.ref aq18, .ref aq20, .ref aq22])), (aq18, .inl (ak19, 8, .inl (fun _ => 0))), (aq20, .inl (ak21, 8, .inl (fun _ => 0))), (aq22, .inl (ak23, 64, .inl (fun _ => 0))), (aq24, .inr (2, [.ref aq25, .ref aq27, .ref aq29, .ref aq31])), (aq25, .inl (ak26, 32, .inl (fun _ => 0))), (aq27, .inl (ak28, 32, .inl (fun _ => 0))), (aq29, .inl (ak30, 32, .inl (fun _ => 0))), (aq31, .inl (ak32, 64, .inl (fun _ => 0))), (qm, .inr (9, [.ref zq1, .int 0, .int 0, .ref zq2, .ref zq3, .ref zq4, .ref zq5, .ref zq6, .ref zq7, .ref zq8, .ref zq9, .int 0, .int 0, .int 0, .int 0, .ref zq10, .ref zq13, .ref zq23, .ref zq33, .ref zq34, .ref zq47, .ref zq48, .ref zq49, .ref zq50, .ref zq51, .ref zq52, .ref zq53, .ref zq54])), (zq1, .inl (zk1, 2000, .inl (fun _ => 0))), (zq2, .inl (zk2, 4000, .inl (fun _ => 0))), (zq3, .inl (zk3, 2000, .inl (fun _ => 0))), (zq4, .inl (zk4, 21, .inl (fun _ => 0))), (zq5, .inl (zk5, 21, .inl (fun _ => 0))), (zq6, .inl (zk6, 21, .inl (fun _ => 0))), (zq7, .inl (zk7, 21, .inl (fun _ => 0))), (zq8, .inl (zk8, 21, .inl (fun _ => 0))), (zq9, .inl (zk9, 21, .inl (fun _ => 0))), (zq10, .inr (8, [.ref zq11, .int 0])), (zq11, .inl (zk12, 4000, .inl (fun _ => 0))), (zq13, .inr (7, [.ref zq20, .ref zq14, .ref zq16, .ref zq18, .int 0])), (zq14, .inl (zk15, 40, .inl (fun _ => 0))), (zq16, .inl (zk17, 40, .inl (fun _ => 0))), (zq18, .inl (zk19, 40, .inl (fun _ => 0))), (zq20, .inr (8, [.ref zq21, .int 0])), (zq21, .inl (zk22, 2000, .inl (fun _ => 0))), (zq23, .inr (7, [.ref zq30, .ref zq24, .ref zq26, .ref zq28, .int 0])), (zq24, .inl (zk25, 40, .inl (fun _ => 0))), (zq26, .inl (zk27, 40, .inl (fun _ => 0))), (zq28, .inl (zk29, 40, .inl (fun _ => 0))), (zq30, .inr (8, [.ref zq31, .int 0])), (zq31, .inl (zk32, 2000, .inl (fun _ => 0))), (zq33, .inl (zk33, 900, .inl (fun _ => 0))), (zq34, .inr (6, [.ref zq35, .ref zq37, .ref zq39, .ref zq41, .ref zq43, .int 0, .long 0])), (zq35, .inl (zk36, 8, .inl zf45)), (zq37, .inl (zk38, 8, .inl (fun _ => 0))), (zq39, .inl (zk40, 64, .inl (fun _ => 0))), (zq41, .inl (zk42, 64, .inl zf46)), (zq43, .inl (zk44, 64, .inl (fun _ => 0))), (zq47, .inl (zk47, 33, .inl (fun _ => 0))), (zq48, .inl (zk48, 33, .inl (fun _ => 0))), (zq49, .inl (zk49, 33, .inl (fun _ => 0))), (zq50, .inl (zk50, 66, .inl (fun _ => 0))), (zq51, .inl (zk51, 33, .inl (fun _ => 0))), (zq52, .inl (zk52, 32, .inl (fun _ => 0))), (zq53, .inl (zk53, 64, .inl (fun _ => 0))), (zq54, .inl (zk54, 64, .inl (fun _ => 0)))] := hD
  have hK : va_K (dC, dI) classes [(ak3, .byte), (ak6, .byte), (ak10, .byte), (ak12, .int), (ak16, .byte), (ak19, .int), (ak21, .int), (ak23, .int), (ak26, .int), (ak28, .int), (ak30, .int), (ak32, .int), (zk1, .byte), (zk2, .byte), (zk3, .byte), (zk4, .int), (zk5, .int), (zk6, .int), (zk7, .int), (zk8, .int), (zk9, .int), (zk12, .byte), (zk15, .int), (zk17, .int), (zk19, .int), (zk22, .byte), (zk25, .int), (zk27, .int), (zk29, .int), (zk32, .byte), (zk33, .byte), (zk36, .int), (zk38, .int), (zk40, .int), (zk42, .int), (zk44, .byte), (zk47, .int), (zk48, .int), (zk49, .int), (zk50, .int), (zk51, .int), (zk52, .byte), (zk53, .byte), (zk54, .byte)] s := hK
  refine W.widen (k := 60) (n := 26169) (by omega) (by omega) ?_
  refine lv_astore_n (lv' := [(2, .ref qm), (1, .ref qx), (0, .ref b)]) hx hb dL_law_15 rfl hl (by decide) rfl (fun ls hl => ?_)
  refine lv_iconst (v := 0) hx hb dL_law_16 (by decide) ?_
  refine lv_istore_n (lv' := [(3, .int 0), (2, .ref qm), (1, .ref qx), (0, .ref b)]) hx hb dL_law_17 rfl hl (by decide) rfl (fun ls hl => ?_)
  refine va_forget (fun q hq => hS.2.2 q hq) ?_
  have hPG : va_P (dC, dI) classes (wsG qx qm aq1 aq2 ak3 aq4 aq5 ak6 aq7 aq8 aq9 ak10 aq11 ak12 aq13 aq14 aq15 ak16 aq17 aq18 ak19 aq20 ak21 aq22 ak23 aq24 aq25 ak26 aq27 ak28 aq29 ak30 aq31 ak32 zq1 zk1 zq2 zk2 zq3 zk3 zq4 zk4 zq5 zk5 zq6 zk6 zq7 zk7 zq8 zk8 zq9 zk9 zq10 zq11 zk12 zq13 zq14 zk15 zq16 zk17 zq18 zk19 zq20 zq21 zk22 zq23 zq24 zk25 zq26 zk27 zq28 zk29 zq30 zq31 zk32 zq33 zk33 zq34 zq35 zk36 zq37 zk38 zq39 zk40 zq41 zk42 zq43 zk44 zq47 zk47 zq48 zk48 zq49 zk49 zq50 zk50 zq51 zk51 zq52 zk52 zq53 zk53 zq54 zk54 zf45 zf46) H := hP.sub (ws' := (wsG qx qm aq1 aq2 ak3 aq4 aq5 ak6 aq7 aq8 aq9 ak10 aq11 ak12 aq13 aq14 aq15 ak16 aq17 aq18 ak19 aq20 ak21 aq22 ak23 aq24 aq25 ak26 aq27 ak28 aq29 ak30 aq31 ak32 zq1 zk1 zq2 zk2 zq3 zk3 zq4 zk4 zq5 zk5 zq6 zk6 zq7 zk7 zq8 zk8 zq9 zk9 zq10 zq11 zk12 zq13 zq14 zk15 zq16 zk17 zq18 zk19 zq20 zq21 zk22 zq23 zq24 zk25 zq26 zk27 zq28 zk29 zq30 zq31 zk32 zq33 zk33 zq34 zq35 zk36 zq37 zk38 zq39 zk40 zq41 zk42 zq43 zk44 zq47 zk47 zq48 zk48 zq49 zk49 zq50 zk50 zq51 zk51 zq52 zk52 zq53 zk53 zq54 zk54 zf45 zf46)) [0, 1, 3, 5, 6, 9, 10, 12, 16, 2, 4, 7, 11, 8, 13, 14, 15, 17, 18, 19, 20, 21, 31, 33, 37, 39, 43, 46, 22, 23, 24, 25, 26, 27, 28, 29, 30, 32, 38, 34, 35, 36, 44, 40, 41, 42, 45, 47, 48, 49, 50, 51, 52, 53, 54, 55, 56, 57, 58, 59] rfl
  have hDG : va_D (fun q : Nat => s.heap.size ≤ q) (wsG qx qm aq1 aq2 ak3 aq4 aq5 ak6 aq7 aq8 aq9 ak10 aq11 ak12 aq13 aq14 aq15 ak16 aq17 aq18 ak19 aq20 ak21 aq22 ak23 aq24 aq25 ak26 aq27 ak28 aq29 ak30 aq31 ak32 zq1 zk1 zq2 zk2 zq3 zk3 zq4 zk4 zq5 zk5 zq6 zk6 zq7 zk7 zq8 zk8 zq9 zk9 zq10 zq11 zk12 zq13 zq14 zk15 zq16 zk17 zq18 zk19 zq20 zq21 zk22 zq23 zq24 zk25 zq26 zk27 zq28 zk29 zq30 zq31 zk32 zq33 zk33 zq34 zq35 zk36 zq37 zk38 zq39 zk40 zq41 zk42 zq43 zk44 zq47 zk47 zq48 zk48 zq49 zk49 zq50 zk50 zq51 zk51 zq52 zk52 zq53 zk53 zq54 zk54 zf45 zf46) := hD.sub (ws' := (wsG qx qm aq1 aq2 ak3 aq4 aq5 ak6 aq7 aq8 aq9 ak10 aq11 ak12 aq13 aq14 aq15 ak16 aq17 aq18 ak19 aq20 ak21 aq22 ak23 aq24 aq25 ak26 aq27 ak28 aq29 ak30 aq31 ak32 zq1 zk1 zq2 zk2 zq3 zk3 zq4 zk4 zq5 zk5 zq6 zk6 zq7 zk7 zq8 zk8 zq9 zk9 zq10 zq11 zk12 zq13 zq14 zk15 zq16 zk17 zq18 zk19 zq20 zq21 zk22 zq23 zq24 zk25 zq26 zk27 zq28 zk29 zq30 zq31 zk32 zq33 zk33 zq34 zq35 zk36 zq37 zk38 zq39 zk40 zq41 zk42 zq43 zk44 zq47 zk47 zq48 zk48 zq49 zk49 zq50 zk50 zq51 zk51 zq52 zk52 zq53 zk53 zq54 zk54 zf45 zf46)) [0, 1, 3, 5, 6, 9, 10, 12, 16, 2, 4, 7, 11, 8, 13, 14, 15, 17, 18, 19, 20, 21, 31, 33, 37, 39, 43, 46, 22, 23, 24, 25, 26, 27, 28, 29, 30, 32, 38, 34, 35, 36, 44, 40, 41, 42, 45, 47, 48, 49, 50, 51, 52, 53, 54, 55, 56, 57, 58, 59] (by decide) rfl
  have hfl := flat_of_before _ hgv
  have hno : ∀ a : Nat, a < s.heap.size → ¬ (fun q : Nat => s.heap.size ≤ q) a := fun a h q => absurd q (Nat.not_le.mpr h)
  obtain ⟨t60, ev60, c60, x1, x2, x3, x4, x5, x6, x7⟩ := va_Tof (tm := tFS) (ty := .int) (N := 8) (f := fun j => .int (hcF j)) (A := fun q : Nat => s.heap.size ≤ q) (by decide) (hfl _ (by decide +kernel)) (va_eqt (hfl (Cond.eq (Term.length tFS) (.int 8)) (by decide +kernel))) (fun j hj => va_eqt (hfl _ (fl60 j hj))) hno
  obtain ⟨t61, ev61, c61, y1, y2, y3, y4, y5, y6, y7⟩ := va_Tof (tm := tRW) (ty := .int) (N := 64) (f := fun j => .int (kcF j)) (A := fun q : Nat => s.heap.size ≤ q) (by decide) (hfl _ (by decide +kernel)) (va_eqt (hfl (Cond.eq (Term.length tRW) (.int 64)) (by decide +kernel))) (fun j hj => va_eqt (hfl _ (fl61 j hj))) hno
  have h60 : t60 < s.heap.size := Nat.not_le.mp x7
  have h61 : t61 < s.heap.size := Nat.not_le.mp y7
  have hne : t60 ≠ t61 := fun e9 => by
    subst e9
    have : c60 = c61 := Option.some.inj (x1.symm.trans y1)
    subst this
    rw [x5] at y5
    exact absurd y5 (by decide)
  have s60 : H[t60]? = some c60 ∧ s.isArrayOf c60 .int ∧ c60.vm ≠ .unknown ∧ (8 ≤ c60.slots.size ∧ c60.slots.size.toInt32 = Int32.ofNat 8) ∧ ∀ j, j < 8 → c60.slots[j]? = some (.int (hcF j)) := ⟨by rw [hS.2.1 t60 h60 x7]; exact x1, x2, x3, ⟨x4, x5⟩, x6⟩
  have s61 : H[t61]? = some c61 ∧ s.isArrayOf c61 .int ∧ c61.vm ≠ .unknown ∧ (64 ≤ c61.slots.size ∧ c61.slots.size.toInt32 = Int32.ofNat 64) ∧ ∀ j, j < 64 → c61.slots[j]? = some (.int (kcF j)) := ⟨by rw [hS.2.1 t61 h61 y7]; exact y1, y2, y3, ⟨y4, y5⟩, y6⟩
  have hW0 := world0 hPG s60 s61
  have hAr := arrs0 (H := H) (qx := qx) (qm := qm) hK s60 s61
  obtain ⟨hinj, hlo⟩ := inj0 (dC := dC) (dI := dI) (H := H) (c60 := c60) (c61 := c61) hDG h60 h61 hne
  generalize hz : (zG dC dI qx qm aq1 aq2 ak3 aq4 aq5 ak6 aq7 aq8 aq9 ak10 aq11 ak12 aq13 aq14 aq15 ak16 aq17 aq18 ak19 aq20 ak21 aq22 ak23 aq24 aq25 ak26 aq27 ak28 aq29 ak30 aq31 ak32 zq1 zk1 zq2 zk2 zq3 zk3 zq4 zk4 zq5 zk5 zq6 zk6 zq7 zk7 zq8 zk8 zq9 zk9 zq10 zq11 zk12 zq13 zq14 zk15 zq16 zk17 zq18 zk19 zq20 zq21 zk22 zq23 zq24 zk25 zq26 zk27 zq28 zk29 zq30 zq31 zk32 zq33 zk33 zq34 zq35 zk36 zq37 zk38 zq39 zk40 zq41 zk42 zq43 zk44 zq47 zk47 zq48 zk48 zq49 zk49 zq50 zk50 zq51 zk51 zq52 zk52 zq53 zk53 zq54 zk54 t60 t61 c60 c61) = Z at hW0 hAr hinj hlo
  have z0 : Z.2.1 0 = qx := by rw [← hz]; rfl
  have z21 : Z.2.1 21 = qm := by rw [← hz]; rfl
  have z60 : Z.2.1 60 = t60 := by rw [← hz]; rfl
  have z61 : Z.2.1 61 = t61 := by rw [← hz]; rfl
  have zD : Z.1 = (dC, dI) := by rw [← hz]; rfl
  have hAn : ∀ a : Nat, a < s.heap.size → ¬ gx_A Z a := fun a h q => absurd (hlo a q) (Nat.not_le.mpr h)
  have hKZ : gx_K Z s := by
    refine ⟨fun c q hq => by rw [zD]; exact hK.1 c q hq, hAr, hinj, fun q hq => va_Nw.of (by obtain ⟨q1, q2, q3, q4⟩ := q; rfl) (hts _ (nst_ok q hq)), fun q hq => ?_⟩
    rcases List.mem_cons.mp hq with rfl | hq
    · show va_Z "PlainSeal$Sha256" "FIRST_STATE" "[I" (.ref (Z.2.1 60)) (gx_A Z) s s.heap
      rw [z60]
      exact va_Zof (hts _ ls60) (htb _ mw_5) ev60 hAn
    · rcases List.mem_cons.mp hq with rfl | hq
      · show va_Z "PlainSeal$Sha256" "ROUND_WORDS" "[I" (.ref (Z.2.1 61)) (gx_A Z) s s.heap
        rw [z61]
        exact va_Zof (hts _ ls61) (htb _ mw_5) ev61 hAn
      · exact absurd hq List.not_mem_nil
  have hSZ : va_S (gx_A Z) s.heap H [] := ⟨hS.1, fun q hq _ => hS.2.1 q hq (hno q hq), fun q hq => absurd hq List.not_mem_nil⟩
  have X : lx_X (p, l, e, s, m, #[Value.ref b], below, meth, c, 0, (fun _ _ _ _ => True), Z) b L xs := ⟨hx, hb, hml, hown, htb, hKZ, hr, hlocks, hX, hbl, hlo, hL⟩
  have hl : lv_has ls 4 (lvL (p, l, e, s, m, #[Value.ref b], below, meth, c, 0, (fun _ _ _ _ => True), Z) b 0) := by
    unfold lvL
    show lv_has ls 4 [(0, .ref b), (1, .ref (Z.2.1 0)), (2, .ref (Z.2.1 21)), (3, .int (nI 0))]
    rw [z0, z21]
    exact lv_sub hl [3, 2, 1, 0] rfl
  exact law_loop X (L + 1) 0 (u0 zf45 zf46) (by omega) (by omega) (inv0 (fun j hj => (hfxm_0 j hj).trans (rh_hc j hj)) (fun j hj => (hfxm_1 j hj).trans (rk_kc j hj))) H [] ls hl hW0 hSZ
set_option maxHeartbeats 4000000 in
theorem lw_walk (l : Launch) (b : Addr) (xs : List Int32) : MetFree l x (headSpec (Jvm.Cond.code x code maxLocals ret :: tables_1) room_1) (lw_P b xs) (fun _ _ _ _ _ => True) lw_Q := by
  refine MetFree.of_bodyS (code := code) (maxLocals := maxLocals) (ret := ret) (by decide) ?_ ?_
  · intro args s m h hn
    obtain ⟨meth, c, h1, h2, h3, h4, h5, h6, -, -⟩ := Cond.code_spec hn (atoms_spec (ws := Jvm.Cond.code x code maxLocals ret :: tables_1) h _ List.mem_cons_self)
    exact ⟨meth, c, h1, h2, h3, h4, h5, h6⟩
  · intro p e s m args below meth c s₁ B hml0 hP _
    obtain ⟨rfl, hx, hbd, hgv⟩ := hP
    obtain ⟨scr, harrAt, hlist, hof, hsmall⟩ := hx
    obtain ⟨hcb, hkn, -, -⟩ := State.arrayAt?_spec harrAt
    have hown : s.vm.findClass R_law = some m.cls := findClass_of_methodNamed B.named
    have hts0 : ∀ c ∈ (Jvm.Cond.code x code maxLocals ret :: tables_1), c.before #[Value.ref b] s = true := atoms_spec (ws := Jvm.Cond.code x code maxLocals ret :: tables_1) B.pre
    have hts : ∀ w ∈ lw_tbl, w.before #[Value.ref b] s = true := k2_hts_sels lw_privs (fun w hw => hts0 w (List.mem_cons_of_mem _ hw)) lw_privs_ok
    have hml : c.maxLocals = 4 := B.maxLocals_eq (hts0 _ List.mem_cons_self)
    have X₀ : Stand p l e room_1 s m #[Value.ref b] below meth c s₁ [] 0 0 := Stand.of_body B
    have hh0 : s₁.heap = s.heap := by rw [B.state]; rfl
    have hsz : scr.slots.size = xs.length := by rw [← Array.length_toList, hlist, List.length_map]
    have hval : ∀ j : Nat, j < xs.length → scr.slots[j]? = some (.int (xs.getD j 0)) := fun j hj => by
      rw [← Array.getElem?_toList, hlist]
      simp [hj]
    have hbl : b < s.heap.size := (Array.getElem?_eq_some_iff.mp hcb).1
    have hX : va_X b xs.length (fun j => xs.getD j 0) s s.heap := ⟨scr, hcb, hof, hkn, hsz, hval⟩
    have K : W p l e room_1 s m #[Value.ref b] below meth c s₁.heap [] 0 0 (lw_Z below #[Value.ref b] s) (entryFrame m ([Value.ref b] : List Value).toArray 4) := by
      rw [hh0]
      exact whole_start l hbd ⟨B.exec, B.bytes, B.returns, hml, hown, hts, hX, hbl, B.notSynchronized, hgv⟩
    obtain ⟨t, a1, o, b1, b2, b3⟩ := K s₁ rfl X₀
    exact ⟨t, o, a1, b1, b2, b3⟩
theorem lw_pre_spec {args : Array Value} {s : State} (h : (Jvm.Cond.and given_1 narrow_1).before args s = true) (hr : rest_1_c.before args s = true) : ∃ (b : Addr) (xs : List Int32), lw_P b xs args s := by
  have hs := flat_of_before _ h
  have hq := flat_of_before _ hr
  have hc : (Cond.count 1).before args s = true := hs _ (by decide +kernel)
  have harr : (Cond.arrayOf (.arg 0) .int).before args s = true := hs _ (by decide +kernel)
  have hle : (Cond.le (.length (.arg 0)) (.int 3072)).before args s = true := hs _ (by decide +kernel)
  have hlen : (Cond.isInt (.length (.arg 0))).before args s = true := hq _ (by decide +kernel)
  have hall : (Cond.all (.arg 0) (.isInt (.elem (.arg 0) (.index 0)))).before args s = true := hq _ (by decide +kernel)
  obtain ⟨b, xs, hb, hx⟩ := State.ints_of_pre rfl harr hlen hall
  have hsm : xs.length < 2 ^ 31 := hx.choose_spec.2.2.2
  have hev : (Term.length (.arg 0)).eval args s none [] s = some (.int xs.length.toInt32) := hx.length_eval hb
  have hv := Cond.le_ints hev (show (Term.int 3072).eval args s none [] s = some (.int 3072) from rfl)
  have hd : xs.length.toInt32 ≤ 3072 := by
    simpa [Cond.before, Cond.holds, hv] using hle
  have hN : xs.length ≤ 3072 := (Int32.ofNat_le_ofNat hsm (by decide)).mp (show Int32.ofNat xs.length ≤ Int32.ofNat 3072 from hd)
  exact ⟨b, xs, Cond.one_arg hc (show args[0]? = some (.ref b) from hb), hx, hN, h⟩
theorem lw_comes (l : Launch) : Comes l x (Jvm.Cond.code x code maxLocals ret :: tables_1) room_1 (fun tb e args s => Calls_1 tb e args s ∧ rest_1 tb e args s ∧ Pre_1 tb e args s)
    (fun _ _ args s o t => lw_Q args s o t) := by
  intro p e ha hc hk s m args below hf hfit hheap happ hpre
  obtain ⟨b, xs, hP⟩ := lw_pre_spec hpre.2.2 hpre.2.1
  obtain ⟨k, o, h1, h2, h3, hQ⟩ := lw_walk l b xs p e ha hc hk s m args below hf ((Spec.applies_iff_loose hf).mp happ).1 hP trivial
  exact ⟨k, o, h1, h2, h3, hQ⟩
theorem lw_frame {s t : State} {o : Outcome} {args : Array Value} (h : Framed s o t [] 600000 7302250) :
    Framed s o t (fieldLocs frame_1_writes args s ++ arrayLocs frame_1_arrays args s ++ staticLocs frame_1_statics s) 600000 7302250 := h
theorem lw_limb (L : Cond) (hL : ∀ (args : Array Value) (s t : State), L.after args s (.returned (some (.int 1))) t = true) :
    ArmFor flags0 classFile x code maxLocals ret World_1 tables_1 room_1 Calls_1 rest_1 Pre_1
      (fun tb e a s o t => postC L tb e a s o t ∧ Framed s o t (fieldLocs frame_1_writes a s ++ arrayLocs frame_1_arrays a s ++ staticLocs frame_1_statics s) 600000 7302250) := by
  intro l _ _ _ p e ha hc hk s m args below hf hfit hheap happ hpre
  obtain ⟨k, o, h1, h2, h3, rfl, hF⟩ := lw_comes l p e ha hc hk s m args below hf hfit hheap happ hpre
  exact ⟨k, _, h1, h2, h3, hL args s _, lw_frame hF⟩
theorem i_vc : Claimed_1_1 ∧ Claimed_1_2 := ⟨lw_limb limb_1_1 (fun args s t => by simp [limb_1_1, Cond.after, Cond.holds, Cond.value]), lw_limb limb_1_2 (fun args s t => Cond.after_iff.mpr (by
  first | (rw [show limb_1_2 = Cond.eq .result (.int 1) from rfl, Cond.eq_ints (x := 1) (y := 1) rfl rfl]; simp; done) | (simp [limb_1_2, Cond.value, Term.eval]; done)))⟩

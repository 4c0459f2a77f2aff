theorem mi_483 : Cond.methodLink RX7 1 objectInit ∈ gx_TB := List.mem_filter.mpr ⟨List.mem_append_right _ (List.mem_of_getElem? (i := 483) (by decide +kernel)), by decide +kernel⟩
theorem mi_484 : Cond.methodLink RX7 26 yX7_isPrime ∈ gx_TB := List.mem_filter.mpr ⟨List.mem_append_right _ (List.mem_of_getElem? (i := 484) (by decide +kernel)), by decide +kernel⟩
theorem mi_485 : Cond.static yX7_isPrime ∈ gx_TB := List.mem_filter.mpr ⟨List.mem_append_right _ (List.mem_of_getElem? (i := 485) (by decide +kernel)), by decide +kernel⟩
set_option maxRecDepth 100000 in
theorem mi_486 : Cond.code yX7_isPrime cX7_isPrime 2 (some .boolean) ∈ gx_TB := List.mem_filter.mpr ⟨List.mem_append_right _ (List.mem_of_getElem? (i := 486) rfl), by decide +kernel⟩
theorem mi_487 : Cond.methodLink RX7 30 yX7_rootOf ∈ gx_TB := List.mem_filter.mpr ⟨List.mem_append_right _ (List.mem_of_getElem? (i := 487) (by decide +kernel)), by decide +kernel⟩
theorem mi_488 : Cond.static yX7_rootOf ∈ gx_TB := List.mem_filter.mpr ⟨List.mem_append_right _ (List.mem_of_getElem? (i := 488) (by decide +kernel)), by decide +kernel⟩
set_option maxRecDepth 100000 in
theorem mi_489 : Cond.code yX7_rootOf cX7_rootOf 6 (some .int) ∈ gx_TB := List.mem_filter.mpr ⟨List.mem_append_right _ (List.mem_of_getElem? (i := 489) rfl), by decide +kernel⟩
theorem dX7_init_0 : decode cX7_init 0 = .ok (.aload_n 0, 1) := by decide +kernel
theorem dX7_init_1 : decode cX7_init 1 = .ok (.invokespecial 1, 3) := by decide +kernel
theorem dX7_init_4 : decode cX7_init 4 = .ok (.aload_n 0, 1) := by decide +kernel
theorem dX7_init_5 : decode cX7_init 5 = .ok (.bipush 8, 2) := by decide +kernel
theorem dX7_init_7 : decode cX7_init 7 = .ok (.newarray .int, 2) := by decide +kernel
theorem dX7_init_9 : decode cX7_init 9 = .ok (.putfield 9, 3) := by decide +kernel
theorem dX7_init_12 : decode cX7_init 12 = .ok (.aload_n 0, 1) := by decide +kernel
theorem dX7_init_13 : decode cX7_init 13 = .ok (.bipush 8, 2) := by decide +kernel
theorem dX7_init_15 : decode cX7_init 15 = .ok (.newarray .int, 2) := by decide +kernel
theorem dX7_init_17 : decode cX7_init 17 = .ok (.putfield 13, 3) := by decide +kernel
theorem dX7_init_20 : decode cX7_init 20 = .ok (.aload_n 0, 1) := by decide +kernel
theorem dX7_init_21 : decode cX7_init 21 = .ok (.bipush 64, 2) := by decide +kernel
theorem dX7_init_23 : decode cX7_init 23 = .ok (.newarray .int, 2) := by decide +kernel
theorem dX7_init_25 : decode cX7_init 25 = .ok (.putfield 16, 3) := by decide +kernel
theorem dX7_init_28 : decode cX7_init 28 = .ok (.aload_n 0, 1) := by decide +kernel
theorem dX7_init_29 : decode cX7_init 29 = .ok (.bipush 64, 2) := by decide +kernel
theorem dX7_init_31 : decode cX7_init 31 = .ok (.newarray .int, 2) := by decide +kernel
theorem dX7_init_33 : decode cX7_init 33 = .ok (.putfield 19, 3) := by decide +kernel
theorem dX7_init_36 : decode cX7_init 36 = .ok (.aload_n 0, 1) := by decide +kernel
theorem dX7_init_37 : decode cX7_init 37 = .ok (.bipush 64, 2) := by decide +kernel
theorem dX7_init_39 : decode cX7_init 39 = .ok (.newarray .byte, 2) := by decide +kernel
theorem dX7_init_41 : decode cX7_init 41 = .ok (.putfield 22, 3) := by decide +kernel
theorem dX7_init_44 : decode cX7_init 44 = .ok (.iconst 0, 1) := by decide +kernel
theorem dX7_init_45 : decode cX7_init 45 = .ok (.istore_n 1, 1) := by decide +kernel
theorem dX7_init_46 : decode cX7_init 46 = .ok (.iconst 2, 1) := by decide +kernel
theorem dX7_init_47 : decode cX7_init 47 = .ok (.istore_n 2, 1) := by decide +kernel
theorem dX7_init_48 : decode cX7_init 48 = .ok (.iload_n 1, 1) := by decide +kernel
theorem dX7_init_49 : decode cX7_init 49 = .ok (.bipush 64, 2) := by decide +kernel
theorem dX7_init_51 : decode cX7_init 51 = .ok (.if_icmp .ge 50, 3) := by decide +kernel
theorem dX7_init_54 : decode cX7_init 54 = .ok (.iload_n 2, 1) := by decide +kernel
theorem dX7_init_55 : decode cX7_init 55 = .ok (.invokestatic 26, 3) := by decide +kernel
theorem dX7_init_58 : decode cX7_init 58 = .ok (.ifCond .ne 6, 3) := by decide +kernel
theorem dX7_init_61 : decode cX7_init 61 = .ok (.goto 34, 3) := by decide +kernel
theorem dX7_init_64 : decode cX7_init 64 = .ok (.aload_n 0, 1) := by decide +kernel
theorem dX7_init_65 : decode cX7_init 65 = .ok (.getfield 19, 3) := by decide +kernel
theorem dX7_init_68 : decode cX7_init 68 = .ok (.iload_n 1, 1) := by decide +kernel
theorem dX7_init_69 : decode cX7_init 69 = .ok (.iload_n 2, 1) := by decide +kernel
theorem dX7_init_70 : decode cX7_init 70 = .ok (.iconst 3, 1) := by decide +kernel
theorem dX7_init_71 : decode cX7_init 71 = .ok (.invokestatic 30, 3) := by decide +kernel
theorem dX7_init_74 : decode cX7_init 74 = .ok (.iastore, 1) := by decide +kernel
theorem dX7_init_75 : decode cX7_init 75 = .ok (.iload_n 1, 1) := by decide +kernel
theorem dX7_init_76 : decode cX7_init 76 = .ok (.bipush 8, 2) := by decide +kernel
theorem dX7_init_78 : decode cX7_init 78 = .ok (.if_icmp .ge 14, 3) := by decide +kernel
theorem dX7_init_81 : decode cX7_init 81 = .ok (.aload_n 0, 1) := by decide +kernel
theorem dX7_init_82 : decode cX7_init 82 = .ok (.getfield 9, 3) := by decide +kernel
theorem dX7_init_85 : decode cX7_init 85 = .ok (.iload_n 1, 1) := by decide +kernel
theorem dX7_init_86 : decode cX7_init 86 = .ok (.iload_n 2, 1) := by decide +kernel
theorem dX7_init_87 : decode cX7_init 87 = .ok (.iconst 2, 1) := by decide +kernel
theorem dX7_init_88 : decode cX7_init 88 = .ok (.invokestatic 30, 3) := by decide +kernel
theorem dX7_init_91 : decode cX7_init 91 = .ok (.iastore, 1) := by decide +kernel
theorem dX7_init_92 : decode cX7_init 92 = .ok (.iinc 1 1, 3) := by decide +kernel
theorem dX7_init_95 : decode cX7_init 95 = .ok (.iinc 2 1, 3) := by decide +kernel
theorem dX7_init_98 : decode cX7_init 98 = .ok (.goto (-50), 3) := by decide +kernel
theorem dX7_init_101 : decode cX7_init 101 = .ok (.return_, 1) := by decide +kernel
def zZ : gx_Z := ((fun _ => default, fun _ _ => 0), fun _ => 0, fun _ => default)
def zS : gx_S := (fun _ _ => 0, fun _ _ => 0, fun _ _ => 0, fun _ _ => 0)
set_option maxHeartbeats 4000000 in
set_option maxRecDepth 100000 in
theorem lp7_init {p : Program} {l : Launch} {e : Env} {R : Room} {s : State} {m : MethodId} {args : Array Value} {below : List Frame} {meth : Method} {c : Code} (hx : p.tables.exec = Jvm.exec) (hb : c.code = cX7_init) (hml : c.maxLocals = 3) (hown : s.vm.findClass RX7 = some m.cls) (htb : ∀ w ∈ gx_TB, w.before args s = true) {dC : Nat → ClassId} {dI : Nat → Nat → Nat} {A : Nat → Prop} {h0 q1 q2 q3 q4 q5 : Nat} {k1 k2 k3 k4 k5 : ClassId} (hK : va_K (dC, dI) classes [(k1, .int), (k2, .int), (k3, .int), (k4, .int), (k5, .byte)] s) {cells slots : Nat} {Q : State → Prop} (hRf : 4 ≤ R.frames) (hRl : 145 ≤ R.locals) (hR3 : cells ≤ R.cells) (hR4 : slots ≤ R.slots)
    (fin : ∀ (F G : Nat → Int32) (H : Heap) (locs : List Loc) (ls : Array Slot), (∀ j, j < 8 → F j = rh j) → (∀ j, j < 64 → G j = rk j) → va_P (dC, dI) classes [(h0, .inr (6, [.ref q1, .ref q2, .ref q3, .ref q4, .ref q5, .int 0, .long 0])), (q1, .inl (k1, 8, .inl F)), (q2, .inl (k2, 8, .inl (fun _ => 0))), (q3, .inl (k3, 64, .inl (fun _ => 0))), (q4, .inl (k4, 64, .inl G)), (q5, .inl (k5, 64, .inl (fun _ => 0)))] H → va_D A [(h0, .inr (6, [.ref q1, .ref q2, .ref q3, .ref q4, .ref q5, .int 0, .long 0])), (q1, .inl (k1, 8, .inl F)), (q2, .inl (k2, 8, .inl (fun _ => 0))), (q3, .inl (k3, 64, .inl (fun _ => 0))), (q4, .inl (k4, 64, .inl G)), (q5, .inl (k5, 64, .inl (fun _ => 0)))] → va_S A s.heap H locs → W p l e R s m args below meth c H locs cells slots Q (F0 m 101 ls [])) :
    ∀ (N pp : Nat) (F G : Nat → Int32) (H : Heap) (locs : List Loc) (ls : Array Slot), 312 - pp = N → 2 ≤ pp → pp ≤ 312 → (∀ j, j < 8 → j < cp pp → F j = rh j) → (∀ j, j < 64 → j < cp pp → G j = rk j) → va_P (dC, dI) classes [(h0, .inr (6, [.ref q1, .ref q2, .ref q3, .ref q4, .ref q5, .int 0, .long 0])), (q1, .inl (k1, 8, .inl F)), (q2, .inl (k2, 8, .inl (fun _ => 0))), (q3, .inl (k3, 64, .inl (fun _ => 0))), (q4, .inl (k4, 64, .inl G)), (q5, .inl (k5, 64, .inl (fun _ => 0)))] H → va_D A [(h0, .inr (6, [.ref q1, .ref q2, .ref q3, .ref q4, .ref q5, .int 0, .long 0])), (q1, .inl (k1, 8, .inl F)), (q2, .inl (k2, 8, .inl (fun _ => 0))), (q3, .inl (k3, 64, .inl (fun _ => 0))), (q4, .inl (k4, 64, .inl G)), (q5, .inl (k5, 64, .inl (fun _ => 0)))] → va_S A s.heap H locs → lv_has ls 3 [(2, .int (nI pp)), (1, .int (nI (cp pp))), (0, .ref h0)] → W p l e R s m args below meth c H locs cells slots Q (F0 m 48 ls []) := by
  intro N
  induction N with
  | zero =>
    intro pp F G H locs ls hN hp2 hp hF hG hP hD hS hl
    have ep : pp = 312 := by omega
    subst ep
    rw [cp_312.1] at hl hF hG
    refine lv_iload_n hx hb dX7_init_48 rfl (lv_at hl 1 rfl) ?_
    refine lv_bipush (v := 64) hx hb dX7_init_49 (by decide) ?_
    refine lv_icmp_ge (tgt := 101) hx hb dX7_init_51 (by decide) (fun _ => ?_) (fun q => absurd (nI_le (a := 64) (by omega) (by omega)) q)
    exact fin F G H locs ls (fun j hj => hF j hj (by omega)) (fun j hj => hG j hj hj) hP hD hS
  | succ N ih =>
    intro pp F G H locs ls hN hp2 hp hF hG hP hD hS hl
    obtain ⟨g1, g2⟩ := cp_ok pp (by omega) hp2
    have g64 : cp pp < 64 := by
      cases w : prF (nI pp) 20 2 with
      | true => exact (g1 w).2.2
      | false => exact (g2 w).2
    refine lv_iload_n hx hb dX7_init_48 rfl (lv_at hl 1 rfl) ?_
    refine lv_bipush (v := 64) hx hb dX7_init_49 (by decide) ?_
    refine lv_icmp_ge (tgt := 101) hx hb dX7_init_51 (by decide) (fun q => absurd q (nI_ge (b := 64) (by omega) (by omega))) (fun _ => ?_)
    refine lv_iload_n hx hb dX7_init_54 rfl (lv_at hl 0 rfl) ?_
    have hRl2 := hRl
    have hRf2 := hRf
    refine va_calli (va_runS (As := [.int (nI pp)]) (rest := []) ⟨hx, hb, hml, hown, htb⟩ (c_X7_isPrime (l := l) (Z := zZ) (u := zS) (v0 := nI pp) (post := fun r _ => r = b2 (prF (nI pp) 20 2)) ⟨pp, by omega, rfl, rfl⟩) ⟨callB_of 1 htb (gx_goodT mi_486) rfl rfl rfl (htb _ mw_10) (htb _ mi_484) hyX7_isPrime ⟨Nat.le_trans (by decide) hRf, Nat.le_trans (by decide) hRl⟩, htb _ mi_485⟩ ⟨px_blind, fun U hU hW => ⟨rfl, trivial, trivial⟩⟩ rfl rfl hl.1 rfl (lv_room (Nat.le_of_ble_eq_true rfl)) dX7_init_55 ⟨hR3, hR4⟩) hS (fun q _ h => absurd h id) (fun q h => absurd h id) (fun r55 u9 t H1 locs ht hvm hw hB hz1 hk1 hS => ?_)
    have hP := hP.kept (fun k q hq => hk1 q.1 ((hP k q hq).lt) id)
    generalize H1 = H at hP hS ⊢
    subst hw
    refine lv_if_ne (tgt := 64) hx hb dX7_init_58 (by decide) (fun q => ?_) (fun q => ?_)
    · have w := b2_n0 q
      obtain ⟨w1, w2, w3⟩ := g1 w
      refine lv_aload_n hx hb dX7_init_64 rfl (lv_at hl 2 rfl) ?_
      refine va_get (C := RX7) (T := TX7) (N := 7) hx hb htb iwX7 hown hK hP 0 rfl rfl 3 (by decide) (htb _ mw_502) (fun _ h9 => h9) (v := .ref q4) rfl dX7_init_65 ?_
      refine lv_iload_n hx hb dX7_init_68 rfl (lv_at hl 1 rfl) ?_
      refine lv_iload_n hx hb dX7_init_69 rfl (lv_at hl 0 rfl) ?_
      refine lv_iconst (v := 3) hx hb dX7_init_70 (by decide) ?_
      refine va_calli (va_runS (As := [.int (nI pp), .int 3]) (rest := [.int (nI (cp pp)), .ref q4]) ⟨hx, hb, hml, hown, htb⟩ (c_X7_rootOf (l := l) (Z := zZ) (u := zS) (v0 := nI pp) (v1 := 3) (post := fun r _ => r = rt (nI pp) 3) rfl) ⟨callB_of 2 htb (gx_goodT mi_489) rfl rfl rfl (htb _ mw_10) (htb _ mi_487) hyX7_rootOf ⟨hRf, hRl⟩, htb _ mi_488⟩ ⟨px_blind, fun U hU hW => ⟨rfl, trivial, trivial⟩⟩ rfl rfl hl.1 rfl (lv_room (Nat.le_of_ble_eq_true rfl)) dX7_init_71 ⟨hR3, hR4⟩) hS (fun q _ h => absurd h id) (fun q h => absurd h id) (fun r71 u9 t H1 locs ht hvm hw hB hz1 hk1 hS => ?_)
      have hP := hP.kept (fun k q hq => hk1 q.1 ((hP k q hq).lt) id)
      generalize H1 = H at hP hS ⊢
      subst hw
      refine va_iast hx hb hK hP hD hS 4 3 rfl rfl (vp_in_nI (N := 64) w3 (by omega)) dX7_init_74 (fun H locs hP hD hS => ?_)
      rw [nI_clamp (by omega)] at hP hD
      have hP : va_P (dC, dI) classes [(h0, .inr (6, [.ref q1, .ref q2, .ref q3, .ref q4, .ref q5, .int 0, .long 0])), (q1, .inl (k1, 8, .inl F)), (q2, .inl (k2, 8, .inl (fun _ => 0))), (q3, .inl (k3, 64, .inl (fun _ => 0))), (q4, .inl (k4, 64, .inl (upd G (cp pp) (rt (nI pp) 3)))), (q5, .inl (k5, 64, .inl (fun _ => 0)))] H := hP
      have hD : va_D A [(h0, .inr (6, [.ref q1, .ref q2, .ref q3, .ref q4, .ref q5, .int 0, .long 0])), (q1, .inl (k1, 8, .inl F)), (q2, .inl (k2, 8, .inl (fun _ => 0))), (q3, .inl (k3, 64, .inl (fun _ => 0))), (q4, .inl (k4, 64, .inl (upd G (cp pp) (rt (nI pp) 3)))), (q5, .inl (k5, 64, .inl (fun _ => 0)))] := hD
      have hG2 : ∀ j, j < 64 → j < cp (pp + 1) → upd G (cp pp) (rt (nI pp) 3) j = rk j := fun j h1 h2 => by
        by_cases ej : j = cp pp
        · rw [ej, pk_us]; unfold rk; rw [w1]
        · rw [pk_un ej]; exact hG j h1 (by omega)
      have back : ∀ (F' : Nat → Int32) (H : Heap) (locs : List Loc), (∀ j, j < 8 → j < cp (pp + 1) → F' j = rh j) → va_P (dC, dI) classes [(h0, .inr (6, [.ref q1, .ref q2, .ref q3, .ref q4, .ref q5, .int 0, .long 0])), (q1, .inl (k1, 8, .inl F')), (q2, .inl (k2, 8, .inl (fun _ => 0))), (q3, .inl (k3, 64, .inl (fun _ => 0))), (q4, .inl (k4, 64, .inl (upd G (cp pp) (rt (nI pp) 3)))), (q5, .inl (k5, 64, .inl (fun _ => 0)))] H → va_D A [(h0, .inr (6, [.ref q1, .ref q2, .ref q3, .ref q4, .ref q5, .int 0, .long 0])), (q1, .inl (k1, 8, .inl F')), (q2, .inl (k2, 8, .inl (fun _ => 0))), (q3, .inl (k3, 64, .inl (fun _ => 0))), (q4, .inl (k4, 64, .inl (upd G (cp pp) (rt (nI pp) 3)))), (q5, .inl (k5, 64, .inl (fun _ => 0)))] → va_S A s.heap H locs → W p l e R s m args below meth c H locs cells slots Q (F0 m 92 ls []) := fun F' H locs hF' hP hD hS => by
        refine lv_iinc (v := nI (cp (pp + 1))) (lv' := [(1, .int (nI (cp (pp + 1)))), (2, .int (nI pp)), (0, .ref h0)]) hx hb dX7_init_92 hl (k := 1) rfl (by rw [w2, ← nI_1]; rfl) (by decide) rfl (fun ls hl => ?_)
        refine lv_iinc (v := nI (pp + 1)) (lv' := [(2, .int (nI (pp + 1))), (1, .int (nI (cp (pp + 1)))), (0, .ref h0)]) hx hb dX7_init_95 hl (k := 1) rfl (by rw [← nI_1]; rfl) (by decide) rfl (fun ls hl => ?_)
        refine lv_goto (tgt := 48) hx hb dX7_init_98 (by decide) ?_
        exact ih (pp + 1) F' _ H locs ls (by omega) (by omega) (by omega) hF' hG2 hP hD hS hl
      refine lv_iload_n hx hb dX7_init_75 rfl (lv_at hl 1 rfl) ?_
      refine lv_bipush (v := 8) hx hb dX7_init_76 (by decide) ?_
      refine lv_icmp_ge (tgt := 92) hx hb dX7_init_78 (by decide) (fun q8 => ?_) (fun q8 => ?_)
      · have q8 : 8 ≤ cp pp := (nI_leI (a := 8) (by omega) (by omega)).mp q8
        exact back F H locs (fun j h1 h2 => hF j h1 (by omega)) hP hD hS
      · have q8 : ¬ 8 ≤ cp pp := fun z => q8 ((nI_leI (a := 8) (by omega) (by omega)).mpr z)
        refine lv_aload_n hx hb dX7_init_81 rfl (lv_at hl 2 rfl) ?_
        refine va_get (C := RX7) (T := TX7) (N := 7) hx hb htb iwX7 hown hK hP 0 rfl rfl 0 (by decide) (htb _ mw_499) (fun _ h9 => h9) (v := .ref q1) rfl dX7_init_82 ?_
        refine lv_iload_n hx hb dX7_init_85 rfl (lv_at hl 1 rfl) ?_
        refine lv_iload_n hx hb dX7_init_86 rfl (lv_at hl 0 rfl) ?_
        refine lv_iconst (v := 2) hx hb dX7_init_87 (by decide) ?_
        refine va_calli (va_runS (As := [.int (nI pp), .int 2]) (rest := [.int (nI (cp pp)), .ref q1]) ⟨hx, hb, hml, hown, htb⟩ (c_X7_rootOf (l := l) (Z := zZ) (u := zS) (v0 := nI pp) (v1 := 2) (post := fun r _ => r = rt (nI pp) 2) rfl) ⟨callB_of 2 htb (gx_goodT mi_489) rfl rfl rfl (htb _ mw_10) (htb _ mi_487) hyX7_rootOf ⟨hRf, hRl⟩, htb _ mi_488⟩ ⟨px_blind, fun U hU hW => ⟨rfl, trivial, trivial⟩⟩ rfl rfl hl.1 rfl (lv_room (Nat.le_of_ble_eq_true rfl)) dX7_init_88 ⟨hR3, hR4⟩) hS (fun q _ h => absurd h id) (fun q h => absurd h id) (fun r88 u9 t H1 locs ht hvm hw hB hz1 hk1 hS => ?_)
        have hP := hP.kept (fun k q hq => hk1 q.1 ((hP k q hq).lt) id)
        generalize H1 = H at hP hS ⊢
        subst hw
        refine va_iast hx hb hK hP hD hS 1 0 rfl rfl (vp_in_nI (N := 8) (by omega) (by omega)) dX7_init_91 (fun H locs hP hD hS => ?_)
        rw [nI_clamp (by omega)] at hP hD
        refine back (upd F (cp pp) (rt (nI pp) 2)) H locs (fun j h1 h2 => ?_) hP hD hS
        by_cases ej : j = cp pp
        · rw [ej, pk_us]; unfold rh; rw [w1]
        · rw [pk_un ej]; exact hF j h1 (by omega)
    · rw [b2_0] at q
      obtain ⟨w2, w3⟩ := g2 q
      refine lv_goto (tgt := 95) hx hb dX7_init_61 (by decide) ?_
      rw [← w2] at hl hF hG
      refine lv_iinc (v := nI (pp + 1)) (lv' := [(2, .int (nI (pp + 1))), (1, .int (nI (cp (pp + 1)))), (0, .ref h0)]) hx hb dX7_init_95 hl (k := 0) rfl (by rw [← nI_1]; rfl) (by decide) rfl (fun ls hl => ?_)
      refine lv_goto (tgt := 48) hx hb dX7_init_98 (by decide) ?_
      exact ih (pp + 1) F G H locs ls (by omega) (by omega) (by omega) hF hG hP hD hS hl
def at_X7_init (dC : Nat → ClassId) (dI : Nat → Nat → Nat) (A : Nat → Prop) (h0 : Nat) (t : State) : Prop := ∃ q1 : Nat, ∃ k1 : ClassId, ∃ q2 : Nat, ∃ k2 : ClassId, ∃ q3 : Nat, ∃ k3 : ClassId, ∃ q4 : Nat, ∃ k4 : ClassId, ∃ q5 : Nat, ∃ k5 : ClassId, ∃ f1 : Nat → Int32, ∃ f2 : Nat → Int32, (∀ j, j < 8 → f1 j = rh j) ∧ (∀ j, j < 64 → f2 j = rk j) ∧ va_P (dC, dI) classes [(h0, .inr (6, [.ref q1, .ref q2, .ref q3, .ref q4, .ref q5, .int 0, .long 0])), (q1, .inl (k1, 8, .inl f1)), (q2, .inl (k2, 8, .inl (fun _ => 0))), (q3, .inl (k3, 64, .inl (fun _ => 0))), (q4, .inl (k4, 64, .inl f2)), (q5, .inl (k5, 64, .inl (fun _ => 0)))] t.heap ∧ va_K (dC, dI) classes [(k1, .int), (k2, .int), (k3, .int), (k4, .int), (k5, .byte)] t ∧ va_D A [(h0, .inr (6, [.ref q1, .ref q2, .ref q3, .ref q4, .ref q5, .int 0, .long 0])), (q1, .inl (k1, 8, .inl f1)), (q2, .inl (k2, 8, .inl (fun _ => 0))), (q3, .inl (k3, 64, .inl (fun _ => 0))), (q4, .inl (k4, 64, .inl f2)), (q5, .inl (k5, 64, .inl (fun _ => 0)))]
set_option maxHeartbeats 4000000 in
set_option maxRecDepth 100000 in
theorem c_X7_init (l : Launch) (dC : Nat → ClassId) (dI : Nat → Nat → Nat) (h0 : Nat) (sz : Nat) : Met l yX7_init (Cond.code yX7_init cX7_init 3 none :: gx_TB) ({ frames := 4, cells := 5, slots := 208, locals := 145 }) (va_Pc [.ref h0] (fun U => U.heap.size = sz ∧ va_P (dC, dI) classes [(h0, .inr (6, [.null, .null, .null, .null, .null, .int 0, .long 0]))] U.heap ∧ va_K (dC, dI) classes [] U ∧ va_D (fun _ => True) [(h0, .inr (6, [.null, .null, .null, .null, .null, .int 0, .long 0]))])) (va_Qv (fun _ : Unit => True) (fun _ t => at_X7_init dC dI (va_A [(h0, .inr (6, [.null, .null, .null, .null, .null, .int 0, .long 0]))] sz) h0 t) (va_A [(h0, .inr (6, [.null, .null, .null, .null, .null, .int 0, .long 0]))] sz)) 5 208 (va_A [(h0, .inr (6, [.null, .null, .null, .null, .null, .int 0, .long 0]))] sz) := by
  refine Met.ofW (cc := cX7_init) (maxL := 3) (ret := none) (by decide +kernel) rfl ?_
  intro p e s m args below meth c s₁ B hml hv
  obtain ⟨rfl, hsz, hP, hK, hD0⟩ := hv
  have hx := B.exec
  have hb := B.bytes
  have hr := B.returns
  have hts := atoms_spec (ws := Cond.code yX7_init cX7_init 3 none :: gx_TB) B.pre
  have htb : ∀ w ∈ gx_TB, w.before _ s = true := fun w hw => hts w (List.mem_cons_of_mem _ hw)
  have hown : s.vm.findClass RX7 = some m.cls := findClass_of_methodNamed B.named
  have hlocks := B.notSynchronized
  have hin : meth.name = "<init>" := (name_of_methodNamed B.named B.method).1
  subst hsz
  have hD := hD0.self (sz := s.heap.size)
  generalize hAe : va_A [(h0, .inr (6, [.null, .null, .null, .null, .null, .int 0, .long 0]))] s.heap.size = A at hD ⊢
  have hA : ∀ q : Nat, s.heap.size ≤ q → A q := fun q h => by rw [← hAe]; exact Or.inr h
  have hS : va_S A s.heap s.heap [] := va_S.rf
  have hP : va_P (dC, dI) classes [(h0, .inr (6, [.null, .null, .null, .null, .null, .int 0, .long 0]))] s.heap := hP
  have hl := lv_entry ([.ref h0]) (n := 3) (Nat.le_of_ble_eq_true rfl)
  rw [lg_entry_eq]
  generalize (lg_sl ([.ref h0]) ++ List.replicate (3 - (lg_sl ([.ref h0])).length) Slot.unset).toArray = ls at hl ⊢
  have hl : lv_has ls 3 [(0, .ref h0)] := hl
  refine lv_aload_n hx hb dX7_init_0 rfl (lv_at hl 0 rfl) ?_
  refine W.objInit hx hb hown (htb _ mi_483) (htb _ mi_22) (htb _ mi_23) rfl (by rw [hml]; exact hl.1) rfl dX7_init_1 (Nat.le_of_ble_eq_true rfl) (Nat.le_of_ble_eq_true rfl) ?_
  refine W.eq (g2 := F0 m 4 ls []) rfl ?_
  refine lv_aload_n hx hb dX7_init_4 rfl (lv_at hl 0 rfl) ?_
  refine lv_bipush (v := 8) hx hb dX7_init_5 (by decide) ?_
  refine va_newa (atype := .int) (a0 := (8, .inl (fun _ => 0))) hx hb (htb _ mi_56) (ty := .int) rfl hK hP hD hS hA (N' := 8) (fun _ => rfl) (by decide) (by decide) (by decide) (Nat.le_of_ble_eq_true rfl) (Nat.le_of_ble_eq_true rfl) dX7_init_7 (fun q1 k1 H hK hP hD hS => ?_)
  have hP : va_P (dC, dI) classes [(h0, .inr (6, [.null, .null, .null, .null, .null, .int 0, .long 0])), (q1, .inl (k1, 8, .inl (fun _ => 0)))] H := hP
  have hD : va_D A [(h0, .inr (6, [.null, .null, .null, .null, .null, .int 0, .long 0])), (q1, .inl (k1, 8, .inl (fun _ => 0)))] := hD
  have hK : va_K (dC, dI) classes [(k1, .int)] s := hK
  refine W.widen (k := 1) (n := 8) (by omega) (by omega) ?_
  refine va_putF (D := (dC, dI)) (ci := 6) (v := .ref q1) (ty := .array .int) (C := RX7) (T := TX7) (N := 7) hx hb htb iwX7 tyX7 tyX7_ok nmX7 hown hK hP hD hS 0 rfl rfl 0 (by decide) (htb _ mw_499) (fun _ h9 => h9) rfl hin rfl (by decide +kernel) rfl rfl (Nat.le_of_ble_eq_true rfl) dX7_init_9 (fun H locs hP hD hS => ?_)
  have hP : va_P (dC, dI) classes [(h0, .inr (6, [.ref q1, .null, .null, .null, .null, .int 0, .long 0])), (q1, .inl (k1, 8, .inl (fun _ => 0)))] H := hP
  have hD : va_D A [(h0, .inr (6, [.ref q1, .null, .null, .null, .null, .int 0, .long 0])), (q1, .inl (k1, 8, .inl (fun _ => 0)))] := hD
  refine lv_aload_n hx hb dX7_init_12 rfl (lv_at hl 0 rfl) ?_
  refine lv_bipush (v := 8) hx hb dX7_init_13 (by decide) ?_
  refine va_newa (atype := .int) (a0 := (8, .inl (fun _ => 0))) hx hb (htb _ mi_56) (ty := .int) rfl hK hP hD hS hA (N' := 8) (fun _ => rfl) (by decide) (by decide) (by decide) (Nat.le_of_ble_eq_true rfl) (Nat.le_of_ble_eq_true rfl) dX7_init_15 (fun q2 k2 H hK hP hD hS => ?_)
  have hP : va_P (dC, dI) classes [(h0, .inr (6, [.ref q1, .null, .null, .null, .null, .int 0, .long 0])), (q1, .inl (k1, 8, .inl (fun _ => 0))), (q2, .inl (k2, 8, .inl (fun _ => 0)))] H := hP
  have hD : va_D A [(h0, .inr (6, [.ref q1, .null, .null, .null, .null, .int 0, .long 0])), (q1, .inl (k1, 8, .inl (fun _ => 0))), (q2, .inl (k2, 8, .inl (fun _ => 0)))] := hD
  have hK : va_K (dC, dI) classes [(k1, .int), (k2, .int)] s := hK
  refine W.widen (k := 2) (n := 16) (by omega) (by omega) ?_
  refine va_putF (D := (dC, dI)) (ci := 6) (v := .ref q2) (ty := .array .int) (C := RX7) (T := TX7) (N := 7) hx hb htb iwX7 tyX7 tyX7_ok nmX7 hown hK hP hD hS 0 rfl rfl 1 (by decide) (htb _ mw_500) (fun _ h9 => h9) rfl hin rfl (by decide +kernel) rfl rfl (Nat.le_of_ble_eq_true rfl) dX7_init_17 (fun H locs hP hD hS => ?_)
  have hP : va_P (dC, dI) classes [(h0, .inr (6, [.ref q1, .ref q2, .null, .null, .null, .int 0, .long 0])), (q1, .inl (k1, 8, .inl (fun _ => 0))), (q2, .inl (k2, 8, .inl (fun _ => 0)))] H := hP
  have hD : va_D A [(h0, .inr (6, [.ref q1, .ref q2, .null, .null, .null, .int 0, .long 0])), (q1, .inl (k1, 8, .inl (fun _ => 0))), (q2, .inl (k2, 8, .inl (fun _ => 0)))] := hD
  refine lv_aload_n hx hb dX7_init_20 rfl (lv_at hl 0 rfl) ?_
  refine lv_bipush (v := 64) hx hb dX7_init_21 (by decide) ?_
  refine va_newa (atype := .int) (a0 := (64, .inl (fun _ => 0))) hx hb (htb _ mi_56) (ty := .int) rfl hK hP hD hS hA (N' := 64) (fun _ => rfl) (by decide) (by decide) (by decide) (Nat.le_of_ble_eq_true rfl) (Nat.le_of_ble_eq_true rfl) dX7_init_23 (fun q3 k3 H hK hP hD hS => ?_)
  have hP : va_P (dC, dI) classes [(h0, .inr (6, [.ref q1, .ref q2, .null, .null, .null, .int 0, .long 0])), (q1, .inl (k1, 8, .inl (fun _ => 0))), (q2, .inl (k2, 8, .inl (fun _ => 0))), (q3, .inl (k3, 64, .inl (fun _ => 0)))] H := hP
  have hD : va_D A [(h0, .inr (6, [.ref q1, .ref q2, .null, .null, .null, .int 0, .long 0])), (q1, .inl (k1, 8, .inl (fun _ => 0))), (q2, .inl (k2, 8, .inl (fun _ => 0))), (q3, .inl (k3, 64, .inl (fun _ => 0)))] := hD
  have hK : va_K (dC, dI) classes [(k1, .int), (k2, .int), (k3, .int)] s := hK
  refine W.widen (k := 3) (n := 80) (by omega) (by omega) ?_
  refine va_putF (D := (dC, dI)) (ci := 6) (v := .ref q3) (ty := .array .int) (C := RX7) (T := TX7) (N := 7) hx hb htb iwX7 tyX7 tyX7_ok nmX7 hown hK hP hD hS 0 rfl rfl 2 (by decide) (htb _ mw_501) (fun _ h9 => h9) rfl hin rfl (by decide +kernel) rfl rfl (Nat.le_of_ble_eq_true rfl) dX7_init_25 (fun H locs hP hD hS => ?_)
  have hP : va_P (dC, dI) classes [(h0, .inr (6, [.ref q1, .ref q2, .ref q3, .null, .null, .int 0, .long 0])), (q1, .inl (k1, 8, .inl (fun _ => 0))), (q2, .inl (k2, 8, .inl (fun _ => 0))), (q3, .inl (k3, 64, .inl (fun _ => 0)))] H := hP
  have hD : va_D A [(h0, .inr (6, [.ref q1, .ref q2, .ref q3, .null, .null, .int 0, .long 0])), (q1, .inl (k1, 8, .inl (fun _ => 0))), (q2, .inl (k2, 8, .inl (fun _ => 0))), (q3, .inl (k3, 64, .inl (fun _ => 0)))] := hD
  refine lv_aload_n hx hb dX7_init_28 rfl (lv_at hl 0 rfl) ?_
  refine lv_bipush (v := 64) hx hb dX7_init_29 (by decide) ?_
  refine va_newa (atype := .int) (a0 := (64, .inl (fun _ => 0))) hx hb (htb _ mi_56) (ty := .int) rfl hK hP hD hS hA (N' := 64) (fun _ => rfl) (by decide) (by decide) (by decide) (Nat.le_of_ble_eq_true rfl) (Nat.le_of_ble_eq_true rfl) dX7_init_31 (fun q4 k4 H hK hP hD hS => ?_)
  have hP : va_P (dC, dI) classes [(h0, .inr (6, [.ref q1, .ref q2, .ref q3, .null, .null, .int 0, .long 0])), (q1, .inl (k1, 8, .inl (fun _ => 0))), (q2, .inl (k2, 8, .inl (fun _ => 0))), (q3, .inl (k3, 64, .inl (fun _ => 0))), (q4, .inl (k4, 64, .inl (fun _ => 0)))] H := hP
  have hD : va_D A [(h0, .inr (6, [.ref q1, .ref q2, .ref q3, .null, .null, .int 0, .long 0])), (q1, .inl (k1, 8, .inl (fun _ => 0))), (q2, .inl (k2, 8, .inl (fun _ => 0))), (q3, .inl (k3, 64, .inl (fun _ => 0))), (q4, .inl (k4, 64, .inl (fun _ => 0)))] := hD
  have hK : va_K (dC, dI) classes [(k1, .int), (k2, .int), (k3, .int), (k4, .int)] s := hK
  refine W.widen (k := 4) (n := 144) (by omega) (by omega) ?_
  refine va_putF (D := (dC, dI)) (ci := 6) (v := .ref q4) (ty := .array .int) (C := RX7) (T := TX7) (N := 7) hx hb htb iwX7 tyX7 tyX7_ok nmX7 hown hK hP hD hS 0 rfl rfl 3 (by decide) (htb _ mw_502) (fun _ h9 => h9) rfl hin rfl (by decide +kernel) rfl rfl (Nat.le_of_ble_eq_true rfl) dX7_init_33 (fun H locs hP hD hS => ?_)
  have hP : va_P (dC, dI) classes [(h0, .inr (6, [.ref q1, .ref q2, .ref q3, .ref q4, .null, .int 0, .long 0])), (q1, .inl (k1, 8, .inl (fun _ => 0))), (q2, .inl (k2, 8, .inl (fun _ => 0))), (q3, .inl (k3, 64, .inl (fun _ => 0))), (q4, .inl (k4, 64, .inl (fun _ => 0)))] H := hP
  have hD : va_D A [(h0, .inr (6, [.ref q1, .ref q2, .ref q3, .ref q4, .null, .int 0, .long 0])), (q1, .inl (k1, 8, .inl (fun _ => 0))), (q2, .inl (k2, 8, .inl (fun _ => 0))), (q3, .inl (k3, 64, .inl (fun _ => 0))), (q4, .inl (k4, 64, .inl (fun _ => 0)))] := hD
  refine lv_aload_n hx hb dX7_init_36 rfl (lv_at hl 0 rfl) ?_
  refine lv_bipush (v := 64) hx hb dX7_init_37 (by decide) ?_
  refine va_newa (atype := .byte) (a0 := (64, .inl (fun _ => 0))) hx hb (htb _ mi_37) (ty := .byte) rfl hK hP hD hS hA (N' := 64) (fun _ => rfl) (by decide) (by decide) (by decide) (Nat.le_of_ble_eq_true rfl) (Nat.le_of_ble_eq_true rfl) dX7_init_39 (fun q5 k5 H hK hP hD hS => ?_)
  have hP : va_P (dC, dI) classes [(h0, .inr (6, [.ref q1, .ref q2, .ref q3, .ref q4, .null, .int 0, .long 0])), (q1, .inl (k1, 8, .inl (fun _ => 0))), (q2, .inl (k2, 8, .inl (fun _ => 0))), (q3, .inl (k3, 64, .inl (fun _ => 0))), (q4, .inl (k4, 64, .inl (fun _ => 0))), (q5, .inl (k5, 64, .inl (fun _ => 0)))] H := hP
  have hD : va_D A [(h0, .inr (6, [.ref q1, .ref q2, .ref q3, .ref q4, .null, .int 0, .long 0])), (q1, .inl (k1, 8, .inl (fun _ => 0))), (q2, .inl (k2, 8, .inl (fun _ => 0))), (q3, .inl (k3, 64, .inl (fun _ => 0))), (q4, .inl (k4, 64, .inl (fun _ => 0))), (q5, .inl (k5, 64, .inl (fun _ => 0)))] := hD
  have hK : va_K (dC, dI) classes [(k1, .int), (k2, .int), (k3, .int), (k4, .int), (k5, .byte)] s := hK
  refine W.widen (k := 5) (n := 208) (by omega) (by omega) ?_
  refine va_putF (D := (dC, dI)) (ci := 6) (v := .ref q5) (ty := .array .byte) (C := RX7) (T := TX7) (N := 7) hx hb htb iwX7 tyX7 tyX7_ok nmX7 hown hK hP hD hS 0 rfl rfl 4 (by decide) (htb _ mw_503) (fun _ h9 => h9) rfl hin rfl (by decide +kernel) rfl rfl (Nat.le_of_ble_eq_true rfl) dX7_init_41 (fun H locs hP hD hS => ?_)
  have hP : va_P (dC, dI) classes [(h0, .inr (6, [.ref q1, .ref q2, .ref q3, .ref q4, .ref q5, .int 0, .long 0])), (q1, .inl (k1, 8, .inl (fun _ => 0))), (q2, .inl (k2, 8, .inl (fun _ => 0))), (q3, .inl (k3, 64, .inl (fun _ => 0))), (q4, .inl (k4, 64, .inl (fun _ => 0))), (q5, .inl (k5, 64, .inl (fun _ => 0)))] H := hP
  have hD : va_D A [(h0, .inr (6, [.ref q1, .ref q2, .ref q3, .ref q4, .ref q5, .int 0, .long 0])), (q1, .inl (k1, 8, .inl (fun _ => 0))), (q2, .inl (k2, 8, .inl (fun _ => 0))), (q3, .inl (k3, 64, .inl (fun _ => 0))), (q4, .inl (k4, 64, .inl (fun _ => 0))), (q5, .inl (k5, 64, .inl (fun _ => 0)))] := hD
  refine lv_iconst (v := 0) hx hb dX7_init_44 (by decide) ?_
  refine lv_istore_n (lv' := [(1, .int 0), (0, .ref h0)]) hx hb dX7_init_45 rfl hl (by decide) rfl (fun ls hl => ?_)
  refine lv_iconst (v := 2) hx hb dX7_init_46 (by decide) ?_
  refine lv_istore_n (lv' := [(2, .int 2), (1, .int 0), (0, .ref h0)]) hx hb dX7_init_47 rfl hl (by decide) rfl (fun ls hl => ?_)
  refine lp7_init hx hb hml hown htb (A := A) hK (Nat.le_of_ble_eq_true rfl) (Nat.le_of_ble_eq_true rfl) (Nat.le_of_ble_eq_true rfl) (Nat.le_of_ble_eq_true rfl) (fun f1 f2 H locs ls hF hG hP hD hS => ?_) 310 2 (fun _ => 0) (fun _ => 0) H locs ls rfl (by omega) (by omega) (fun j _ h => absurd h (by rw [cp_312.2]; omega)) (fun j _ h => absurd h (by rw [cp_312.2]; omega)) hP hD hS (by rw [cp_312.2]; exact hl)
  exact W.vret hx hb hr (fun t ht hW => ⟨⟨(), rfl, trivial, q1, k1, q2, k2, q3, k3, q4, k4, q5, k5, f1, f2, hF, hG, by rw [ht]; exact hP, va_K.moved hW.alike hK, hD⟩, hS.F ht⟩) hS.2.2 dX7_init_101

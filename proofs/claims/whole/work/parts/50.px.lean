/-! NO WORLD: the rows of the frame for static methods that touch no cell -/
def px_W (_ : gx_Z) (_ : gx_S) (_ : Heap) : Prop := True
def px_A (_ : gx_Z) : Nat → Prop := fun _ => False
def px_K (_ : gx_Z) (_ : State) : Prop := True
theorem px_K.moved {Z : gx_Z} {s U : State} {H : Heap} {locs : List Loc} (_ : px_K Z s) (_ : s.WarmedH U.vm) (_ : U.heap = H) (_ : va_S (px_A Z) s.heap H locs) : px_K Z U := trivial
def px_B (Z : gx_Z) (u : gx_S) (t : State) : Prop := px_W Z u t.heap
def px_Pre (Z : gx_Z) (u : gx_S) (av : List Value) : Array Value → State → Prop := va_Pc av (fun U => px_K Z U ∧ px_W Z u U.heap)
def px_Wc (E : gx_E) (nL pc : Nat) (lv : List (Nat × Value)) (st : List Value) (u : gx_S) : Prop :=
  ∀ (H : Heap) (locs : List Loc) (ls : Array Slot), lv_has ls nL lv → px_W (ex_Z E) u H → va_S (px_A (ex_Z E)) (ex_s E).heap H locs →
    W (ex_p E) (ex_l E) (ex_e E) (gx_rm (ex_d E)) (ex_s E) (ex_m E) (ex_args E) (ex_below E) (ex_meth E) (ex_c E) H locs 0 0 (MQ (ex_below E) (ex_Q E) (ex_args E) (ex_s E) 0 0 (px_A (ex_Z E))) (F0 (ex_m E) pc ls st)
def px_X (E : gx_E) (cc : ByteArray) (nL : Nat) (own : String) (ret : Option FieldType) : Prop :=
  (ex_p E).tables.exec = Jvm.exec ∧ (ex_c E).code = cc ∧ (ex_c E).maxLocals = nL ∧ (ex_s E).vm.findClass own = some (ex_m E).cls ∧ (∀ w ∈ gx_TB, w.before (ex_args E) (ex_s E) = true) ∧ px_K (ex_Z E) (ex_s E) ∧ (ex_meth E).sig.returnType = ret ∧ (ex_meth E).locks = false
/-- as the kit's Met.ofW, for a method of a class that is named among the overridden, but has no row itself -/
theorem px_ofWF {l : Launch} {y : MethodName} {ws ws' : List Cond} {rm : Room} {Pc : Array Value → State → Prop} {Qc : Array Value → State → Outcome → State → Prop} {mc ms : Nat} {free : Addr → Prop} {cc : ByteArray} {maxL : Nat} {ret : Option FieldType}
    (hy : plainFor y = true) (hw : ws = Cond.code y cc maxL ret :: ws')
    (body : ∀ p e s m args below meth c s₁, BodyLoose p l y (headSpec ws rm) cc maxL ret e s m args below meth c s₁ → c.maxLocals = maxL → Pc args s →
      W p l e (headSpec ws rm).room s m args below meth c s.heap [] 0 0 (MQ below Qc args s mc ms free) (entryFrame m args maxL)) : Met l y ws rm Pc Qc mc ms free := by
  refine MetFree.of_bodySF (code := cc) (maxLocals := maxL) (ret := ret) hy ?_ ?_
  · intro args s m h hn
    obtain ⟨meth, c, h1, h2, h3, h4, h5, h6, -, -⟩ := Cond.code_spec hn (atoms_spec (ws := ws) h _ (by rw [hw]; exact List.mem_cons_self))
    exact ⟨meth, c, h1, h2, h3, h4, h5, h6⟩
  · intro p e s m args below meth c s₁ B hml hP _
    have hh0 : s₁.heap = s.heap := by rw [B.state]; rfl
    obtain ⟨t, a1, o, b1, b2, b3⟩ := body p e s m args below meth c s₁ B hml hP s₁ hh0 (Stand.of_body B)
    exact ⟨t, o, a1, b1, b2, ⟨b3.1, b3.2⟩⟩
theorem px_met {l : Launch} {y : MethodName} {cc : ByteArray} {maxL : Nat} {ret : Option FieldType} {d : Nat} {av : List Value} {u : gx_S} {Z : gx_Z} {Qc : Array Value → State → Outcome → State → Prop} (hy : plainFor y = true) (hlen : (lg_sl av).length ≤ maxL)
    (body : ∀ E : gx_E, px_X E cc maxL y.cls ret → ex_Z E = Z → ex_Q E = Qc → ex_d E = d → ex_l E = l → px_Wc E maxL 0 (lv_args 0 av) [] u) : Met l y (Cond.code y cc maxL ret :: gx_TB) (gx_rm d) (px_Pre Z u av) Qc 0 0 (px_A Z) := by
  refine px_ofWF (cc := cc) (maxL := maxL) (ret := ret) hy rfl ?_
  intro p e s m args below meth c s₁ B hml hv
  obtain ⟨rfl, hK, hW⟩ := hv
  have hts := atoms_spec (ws := Cond.code y cc maxL ret :: gx_TB) B.pre
  have hown : s.vm.findClass y.cls = some m.cls := findClass_of_methodNamed B.named
  have hl := lv_entry av (n := maxL) hlen
  rw [lg_entry_eq]
  exact body (p, l, e, s, m, av.toArray, below, meth, c, d, Qc, Z) ⟨B.exec, B.bytes, hml, hown, fun w hw => hts w (List.mem_cons_of_mem _ hw), hK, B.returns, B.notSynchronized⟩ rfl rfl rfl rfl s.heap [] _ hl hW va_S.rf
section PX
variable {E : gx_E} {cc : ByteArray} {nL : Nat} {own : String} {ret : Option FieldType} {pc : Nat} {lv : List (Nat × Value)} {st : List Value} {u : gx_S}
theorem px_nami {x : Int32} (k : ∀ y : Int32, y = x → px_Wc E nL pc lv (.int y :: st) u) : px_Wc E nL pc lv (.int x :: st) u := k x rfl
theorem px_naml {x : Int64} (k : ∀ y : Int64, y = x → px_Wc E nL pc lv (.long y :: st) u) : px_Wc E nL pc lv (.long x :: st) u := k x rfl
theorem px_sub {lv' : List (Nat × Value)} (ks : List Nat) (hl : lv_pick lv ks = lv') (k : px_Wc E nL pc lv' st u) : px_Wc E nL pc lv st u := fun H locs ls h hw hs => k H locs ls (lv_sub h ks hl) hw hs
theorem px_bipush (X : px_X E cc nL own ret) {n : Int} {v : Int32} (hdg : decode cc pc = .ok (.bipush n, 2)) (hv : (Int8.ofInt n).toInt32 = v)
    (k : px_Wc E nL (pc + 2) lv (.int v :: st) u) : px_Wc E nL pc lv st u := fun H locs ls hl hw hs => lv_bipush X.1 X.2.1 hdg hv (k H locs ls hl hw hs)
theorem px_sipush (X : px_X E cc nL own ret) {n : Int} {v : Int32} (hdg : decode cc pc = .ok (.sipush n, 3)) (hv : (Int16.ofInt n).toInt32 = v)
    (k : px_Wc E nL (pc + 3) lv (.int v :: st) u) : px_Wc E nL pc lv st u := fun H locs ls hl hw hs => lv_sipush X.1 X.2.1 hdg hv (k H locs ls hl hw hs)
theorem px_goto (X : px_X E cc nL own ret) {off : Int} {tgt : Nat} (hdg : decode cc pc = .ok (.goto off, 3)) (ht : (pc : Int) + off = (tgt : Int))
    (k : px_Wc E nL tgt lv st u) : px_Wc E nL pc lv st u := fun H locs ls hl hw hs => lv_goto X.1 X.2.1 hdg ht (k H locs ls hl hw hs)
theorem px_i2l (X : px_X E cc nL own ret) {x : Int32} {v : Int64} (hdg : decode cc pc = .ok (.i2l, 1)) (hv : x.toInt64 = v)
    (k : px_Wc E nL (pc + 1) lv (.long v :: st) u) : px_Wc E nL pc lv (.int x :: st) u := fun H locs ls hl hw hs => lv_i2l X.1 X.2.1 hdg hv (k H locs ls hl hw hs)
theorem px_icmp_gt (X : px_X E cc nL own ret) {x y : Int32} {off : Int} {tgt : Nat} (hdg : decode cc pc = .ok (.if_icmp .gt off, 3)) (ht : (pc : Int) + off = (tgt : Int))
    (kt : y < x → px_Wc E nL tgt lv st u) (kf : ¬ y < x → px_Wc E nL (pc + 3) lv st u) : px_Wc E nL pc lv (.int y :: .int x :: st) u := fun H locs ls hl hw hs => lv_icmp_gt X.1 X.2.1 hdg ht (fun q => kt q H locs ls hl hw hs) (fun q => kf q H locs ls hl hw hs)
theorem px_icmp_ge (X : px_X E cc nL own ret) {x y : Int32} {off : Int} {tgt : Nat} (hdg : decode cc pc = .ok (.if_icmp .ge off, 3)) (ht : (pc : Int) + off = (tgt : Int))
    (kt : y ≤ x → px_Wc E nL tgt lv st u) (kf : ¬ y ≤ x → px_Wc E nL (pc + 3) lv st u) : px_Wc E nL pc lv (.int y :: .int x :: st) u := fun H locs ls hl hw hs => lv_icmp_ge X.1 X.2.1 hdg ht (fun q => kt q H locs ls hl hw hs) (fun q => kf q H locs ls hl hw hs)
theorem px_icmp_ne (X : px_X E cc nL own ret) {x y : Int32} {off : Int} {tgt : Nat} (hdg : decode cc pc = .ok (.if_icmp .ne off, 3)) (ht : (pc : Int) + off = (tgt : Int))
    (kt : ¬ x = y → px_Wc E nL tgt lv st u) (kf : x = y → px_Wc E nL (pc + 3) lv st u) : px_Wc E nL pc lv (.int y :: .int x :: st) u := fun H locs ls hl hw hs => lv_icmp_ne X.1 X.2.1 hdg ht (fun q => kt q H locs ls hl hw hs) (fun q => kf q H locs ls hl hw hs)
theorem px_iconst (X : px_X E cc nL own ret) {n : Int} {v : Int32} (hdg : decode cc pc = .ok (.iconst n, 1)) (hv : Int32.ofInt n = v)
    (k : px_Wc E nL (pc + 1) lv (.int v :: st) u) : px_Wc E nL pc lv st u := fun H locs ls hl hw hs => lv_iconst X.1 X.2.1 hdg hv (k H locs ls hl hw hs)
theorem px_if_eq (X : px_X E cc nL own ret) {x : Int32} {off : Int} {tgt : Nat} (hdg : decode cc pc = .ok (.ifCond .eq off, 3)) (ht : (pc : Int) + off = (tgt : Int))
    (kt : x = 0 → px_Wc E nL tgt lv st u) (kf : ¬ x = 0 → px_Wc E nL (pc + 3) lv st u) : px_Wc E nL pc lv (.int x :: st) u := fun H locs ls hl hw hs => lv_if_eq X.1 X.2.1 hdg ht (fun q => kt q H locs ls hl hw hs) (fun q => kf q H locs ls hl hw hs)
theorem px_if_le (X : px_X E cc nL own ret) {x : Int32} {off : Int} {tgt : Nat} (hdg : decode cc pc = .ok (.ifCond .le off, 3)) (ht : (pc : Int) + off = (tgt : Int))
    (kt : x ≤ 0 → px_Wc E nL tgt lv st u) (kf : ¬ x ≤ 0 → px_Wc E nL (pc + 3) lv st u) : px_Wc E nL pc lv (.int x :: st) u := fun H locs ls hl hw hs => lv_if_le X.1 X.2.1 hdg ht (fun q => kt q H locs ls hl hw hs) (fun q => kf q H locs ls hl hw hs)
theorem px_if_lt (X : px_X E cc nL own ret) {x : Int32} {off : Int} {tgt : Nat} (hdg : decode cc pc = .ok (.ifCond .lt off, 3)) (ht : (pc : Int) + off = (tgt : Int))
    (kt : x < 0 → px_Wc E nL tgt lv st u) (kf : ¬ x < 0 → px_Wc E nL (pc + 3) lv st u) : px_Wc E nL pc lv (.int x :: st) u := fun H locs ls hl hw hs => lv_if_lt X.1 X.2.1 hdg ht (fun q => kt q H locs ls hl hw hs) (fun q => kf q H locs ls hl hw hs)
theorem px_if_ne (X : px_X E cc nL own ret) {x : Int32} {off : Int} {tgt : Nat} (hdg : decode cc pc = .ok (.ifCond .ne off, 3)) (ht : (pc : Int) + off = (tgt : Int))
    (kt : ¬ x = 0 → px_Wc E nL tgt lv st u) (kf : x = 0 → px_Wc E nL (pc + 3) lv st u) : px_Wc E nL pc lv (.int x :: st) u := fun H locs ls hl hw hs => lv_if_ne X.1 X.2.1 hdg ht (fun q => kt q H locs ls hl hw hs) (fun q => kf q H locs ls hl hw hs)
theorem px_iinc (X : px_X E cc nL own ret) {i j : Nat} {n : Int} {x v : Int32} {lv' : List (Nat × Value)} (hdg : decode cc pc = .ok (.iinc i n, 3)) (hj : lv[j]? = some (i, .int x)) (hv : x + Int32.ofInt n = v) (hn : i < nL) (hl' : (i, Value.int v) :: lv.filter (fun q => !(q.1 == i) && !(q.1 + 1 == i && q.2.category == 2)) = lv')
    (kk : px_Wc E nL (pc + 3) lv' st u) : px_Wc E nL pc lv st u := fun H locs ls hl hw hs => lv_iinc X.1 X.2.1 hdg hl hj hv hn hl' (fun ls' h' => kk H locs ls' h' hw hs)
theorem px_iload_n (X : px_X E cc nL own ret) {k : Fin 4} {i j : Nat} {x : Int32} (hdg : decode cc pc = .ok (.iload_n k, 1)) (hi : (k : Nat) = i) (hj : lv[j]? = some (i, .int x))
    (kk : px_Wc E nL (pc + 1) lv (.int x :: st) u) : px_Wc E nL pc lv st u := fun H locs ls hl hw hs => lv_iload_n X.1 X.2.1 hdg hi (lv_at hl j hj) (kk H locs ls hl hw hs)
theorem px_imul (X : px_X E cc nL own ret) {x y : Int32} (hdg : decode cc pc = .ok (.imul, 1))
    (k : px_Wc E nL (pc + 1) lv (.int (x * y) :: st) u) : px_Wc E nL pc lv (.int y :: .int x :: st) u := fun H locs ls hl hw hs => lv_imul X.1 X.2.1 hdg (k H locs ls hl hw hs)
theorem px_irem (X : px_X E cc nL own ret) {x y : Int32} (hdg : decode cc pc = .ok (.irem, 1)) (hne : ¬ y = 0)
    (k : px_Wc E nL (pc + 1) lv (.int (x - x / y * y) :: st) u) : px_Wc E nL pc lv (.int y :: .int x :: st) u := fun H locs ls hl hw hs => lv_irem X.1 X.2.1 hdg hne (k H locs ls hl hw hs)
theorem px_iret (X : px_X E cc nL own (some .int)) {post : Int32 → gx_S → Prop} (hQ : ex_Q E = va_Qi post (px_B (ex_Z E)) (px_A (ex_Z E))) {v : Int32} (hp : post v u) (hdg : decode cc pc = .ok (.ireturn, 1)) : px_Wc E nL pc lv [.int v] u := fun H locs ls hl hw hs =>
  W.iret X.1 X.2.1 X.2.2.2.2.2.2.1 (fun t ht _ => by rw [hQ]; exact ⟨⟨v, u, rfl, hp, by unfold px_B; rw [ht]; exact hw⟩, hs.F ht⟩) hs.2.2 hdg X.2.2.2.2.2.2.2
theorem px_istore_n (X : px_X E cc nL own ret) {k : Fin 4} {i : Nat} {x : Int32} {lv' : List (Nat × Value)} (hdg : decode cc pc = .ok (.istore_n k, 1)) (hi : (k : Nat) = i) (hn : i < nL) (hl' : (i, Value.int x) :: lv.filter (fun q => !(q.1 == i) && !(q.1 + 1 == i && q.2.category == 2)) = lv')
    (kk : px_Wc E nL (pc + 1) lv' st u) : px_Wc E nL pc lv (.int x :: st) u := fun H locs ls hl hw hs => lv_istore_n X.1 X.2.1 hdg hi hl hn hl' (fun ls' h' => kk H locs ls' h' hw hs)
theorem px_l2i (X : px_X E cc nL own ret) {x : Int64} {v : Int32} (hdg : decode cc pc = .ok (.l2i, 1)) (hv : x.toInt32 = v)
    (k : px_Wc E nL (pc + 1) lv (.int v :: st) u) : px_Wc E nL pc lv (.long x :: st) u := fun H locs ls hl hw hs => lv_l2i X.1 X.2.1 hdg hv (k H locs ls hl hw hs)
theorem px_ladd (X : px_X E cc nL own ret) {x y : Int64} (hdg : decode cc pc = .ok (.ladd, 1))
    (k : px_Wc E nL (pc + 1) lv (.long (x + y) :: st) u) : px_Wc E nL pc lv (.long y :: .long x :: st) u := fun H locs ls hl hw hs => lv_ladd X.1 X.2.1 hdg (k H locs ls hl hw hs)
theorem px_land (X : px_X E cc nL own ret) {x y : Int64} (hdg : decode cc pc = .ok (.land, 1))
    (k : px_Wc E nL (pc + 1) lv (.long (x &&& y) :: st) u) : px_Wc E nL pc lv (.long y :: .long x :: st) u := fun H locs ls hl hw hs => lv_land X.1 X.2.1 hdg (k H locs ls hl hw hs)
theorem px_lcmp (X : px_X E cc nL own ret) {x y : Int64} (hdg : decode cc pc = .ok (.lcmp, 1))
    (k : px_Wc E nL (pc + 1) lv (.int (lg_cmp x y) :: st) u) : px_Wc E nL pc lv (.long y :: .long x :: st) u := fun H locs ls hl hw hs => W.lcmp X.1 X.2.1 hdg (k H locs ls hl hw hs)
theorem px_lconst (X : px_X E cc nL own ret) {n : Fin 2} {v : Int64} (hdg : decode cc pc = .ok (.lconst n, 1)) (hv : Int64.ofNat (n : Nat) = v)
    (k : px_Wc E nL (pc + 1) lv (.long v :: st) u) : px_Wc E nL pc lv st u := fun H locs ls hl hw hs => lv_lconst X.1 X.2.1 hdg hv (k H locs ls hl hw hs)
theorem px_ldc2 (X : px_X E cc nL own ret) {idx : Nat} {v : Int64} (hm : Cond.constantLong own idx v ∈ gx_TB) (hdg : decode cc pc = .ok (.ldc2_w idx, 3))
    (k : px_Wc E nL (pc + 3) lv (.long v :: st) u) : px_Wc E nL pc lv st u := fun H locs ls hl hw hs => lv_ldc2 X.1 X.2.1 X.2.2.2.1 (X.2.2.2.2.1 _ hm) hdg (k H locs ls hl hw hs)
theorem px_lload (X : px_X E cc nL own ret) {i j : Nat} {x : Int64} (hdg : decode cc pc = .ok (.lload i, 2)) (hj : lv[j]? = some (i, .long x))
    (kk : px_Wc E nL (pc + 2) lv (.long x :: st) u) : px_Wc E nL pc lv st u := fun H locs ls hl hw hs => lv_lload X.1 X.2.1 hdg (lv_at hl j hj) (kk H locs ls hl hw hs)
theorem px_lload_n (X : px_X E cc nL own ret) {k : Fin 4} {i j : Nat} {x : Int64} (hdg : decode cc pc = .ok (.lload_n k, 1)) (hi : (k : Nat) = i) (hj : lv[j]? = some (i, .long x))
    (kk : px_Wc E nL (pc + 1) lv (.long x :: st) u) : px_Wc E nL pc lv st u := fun H locs ls hl hw hs => lv_lload_n X.1 X.2.1 hdg hi (lv_at hl j hj) (kk H locs ls hl hw hs)
theorem px_lmul (X : px_X E cc nL own ret) {x y : Int64} (hdg : decode cc pc = .ok (.lmul, 1))
    (k : px_Wc E nL (pc + 1) lv (.long (x * y) :: st) u) : px_Wc E nL pc lv (.long y :: .long x :: st) u := fun H locs ls hl hw hs => lv_lmul X.1 X.2.1 hdg (k H locs ls hl hw hs)
theorem px_lret (X : px_X E cc nL own (some .long)) {post : Int64 → gx_S → Prop} (hQ : ex_Q E = va_Ql post (px_B (ex_Z E)) (px_A (ex_Z E))) {v : Int64} (hp : post v u) (hdg : decode cc pc = .ok (.lreturn, 1)) : px_Wc E nL pc lv [.long v] u := fun H locs ls hl hw hs =>
  W.lret X.1 X.2.1 X.2.2.2.2.2.2.1 (fun t ht _ => by rw [hQ]; exact ⟨⟨v, u, rfl, hp, by unfold px_B; rw [ht]; exact hw⟩, hs.F ht⟩) hs.2.2 hdg X.2.2.2.2.2.2.2
theorem px_lshl (X : px_X E cc nL own ret) {x v : Int64} {y : Int32} (hdg : decode cc pc = .ok (.lshl, 1)) (hv : x <<< (y.toInt64 &&& 63) = v)
    (k : px_Wc E nL (pc + 1) lv (.long v :: st) u) : px_Wc E nL pc lv (.int y :: .long x :: st) u := fun H locs ls hl hw hs => lv_lshl X.1 X.2.1 hdg hv (k H locs ls hl hw hs)
theorem px_lshr (X : px_X E cc nL own ret) {x v : Int64} {y : Int32} (hdg : decode cc pc = .ok (.lshr, 1)) (hv : x >>> (y.toInt64 &&& 63) = v)
    (k : px_Wc E nL (pc + 1) lv (.long v :: st) u) : px_Wc E nL pc lv (.int y :: .long x :: st) u := fun H locs ls hl hw hs => lv_lshr X.1 X.2.1 hdg hv (k H locs ls hl hw hs)
theorem px_lstore (X : px_X E cc nL own ret) {i : Nat} {x : Int64} {lv' : List (Nat × Value)} (hdg : decode cc pc = .ok (.lstore i, 2)) (hn : i + 1 < nL) (hl' : (i, Value.long x) :: lv.filter (fun q => !(q.1 == i) && (!(q.1 == i + 1) && !(q.1 + 1 == i && q.2.category == 2))) = lv')
    (kk : px_Wc E nL (pc + 2) lv' st u) : px_Wc E nL pc lv (.long x :: st) u := fun H locs ls hl hw hs => lv_lstore X.1 X.2.1 hdg hl hn hl' (fun ls' h' => kk H locs ls' h' hw hs)
theorem px_lstore_n (X : px_X E cc nL own ret) {k : Fin 4} {i : Nat} {x : Int64} {lv' : List (Nat × Value)} (hdg : decode cc pc = .ok (.lstore_n k, 1)) (hi : (k : Nat) = i) (hn : i + 1 < nL) (hl' : (i, Value.long x) :: lv.filter (fun q => !(q.1 == i) && (!(q.1 == i + 1) && !(q.1 + 1 == i && q.2.category == 2))) = lv')
    (kk : px_Wc E nL (pc + 1) lv' st u) : px_Wc E nL pc lv (.long x :: st) u := fun H locs ls hl hw hs => lv_lstore_n X.1 X.2.1 hdg hi hl hn hl' (fun ls' h' => kk H locs ls' h' hw hs)
theorem px_lushr (X : px_X E cc nL own ret) {x v : Int64} {y : Int32} (hdg : decode cc pc = .ok (.lushr, 1)) (hv : (x.toUInt64 >>> (y.toInt64.toUInt64 &&& Int64.toUInt64 63)).toInt64 = v)
    (k : px_Wc E nL (pc + 1) lv (.long v :: st) u) : px_Wc E nL pc lv (.int y :: .long x :: st) u := fun H locs ls hl hw hs => lv_lushr X.1 X.2.1 hdg hv (k H locs ls hl hw hs)
theorem px_zret (X : px_X E cc nL own (some .boolean)) {post : Int32 → gx_S → Prop} (hQ : ex_Q E = va_Qi post (px_B (ex_Z E)) (px_A (ex_Z E))) {v : Int32} (hn : narrow .boolean (.int v) = .int v) (hp : post v u) (hdg : decode cc pc = .ok (.ireturn, 1)) : px_Wc E nL pc lv [.int v] u := fun H locs ls hl hw hs =>
  W.zret X.1 X.2.1 X.2.2.2.2.2.2.1 hn (fun t ht _ => by rw [hQ]; exact ⟨⟨v, u, rfl, hp, by unfold px_B; rw [ht]; exact hw⟩, hs.F ht⟩) hs.2.2 hdg X.2.2.2.2.2.2.2
end PX
section PC
variable {E : gx_E} {cc : ByteArray} {nL : Nat} {own : String} {ret : Option FieldType} {pc : Nat} {lv : List (Nat × Value)} {st : List Value} {u : gx_S}
variable {y : MethodName} {bytes : ByteArray} {maxL d' idx n o ci N : Nat} {T : u_T} {ry : Option FieldType} {As rest st0 : List Value} {Qc : Array Value → State → Outcome → State → Prop}
abbrev px_Run (E : gx_E) (nL pc : Nat) (lv : List (Nat × Value)) (st0 rest : List Value) (u : gx_S) (Qa : State → Outcome → State → Prop) : Prop :=
  ∀ (H : Heap) (locs : List Loc) (ls : Array Slot), lv_has ls nL lv → px_W (ex_Z E) u H → va_S (px_A (ex_Z E)) (ex_s E).heap H locs →
    va_Run (ex_p E) (ex_l E) (ex_e E) (gx_rm (ex_d E)) (ex_s E) (ex_m E) (ex_args E) (ex_below E) (ex_meth E) (ex_c E) H locs 0 0 0 0 (F0 (ex_m E) pc ls st0) rest Qa (px_A (ex_Z E))
theorem px_blind {Z : gx_Z} {u : gx_S} {av : List Value} : FrameBlind (px_Pre Z u av) := fun _ _ _ _ q => ⟨q.1, trivial, trivial⟩
theorem px_rS (X : px_X E cc nL own ret) (hM : Met (ex_l E) y (Cond.code y bytes maxL ry :: gx_TB) (gx_rm d') (px_Pre (ex_Z E) u As) Qc 0 0 (px_A (ex_Z E))) (hd : d' + 1 ≤ ex_d E) (hR2 : 8 + (maxL + 11) + 40 * d' ≤ 40 * ex_d E) (m1 : Cond.methodLink own idx y ∈ gx_TB) (m2 : Cond.static y ∈ gx_TB) (m4 : Cond.initialized y.cls ∈ gx_TB) (m5 : Cond.code y bytes maxL ry ∈ gx_TB)
    (hy : y.cls ≠ "java/lang/invoke/MethodHandle" ∧ y.cls ≠ "java/lang/invoke/VarHandle" ∧ (parseMethodDescriptor y.desc).map (fun d => d.parameters.length) = some n) (hn : As.length = n) (hst : st0 = As.reverse ++ rest) (hrest : (rest.map fun v => v.category).sum ≤ 8) (hdg : decode cc pc = .ok (.invokestatic idx, 3)) : px_Run E nL pc lv st0 rest u (Qc As.toArray) := by
  intro H locs ls hl hw hs
  have hts := X.2.2.2.2.1
  exact va_runS (Ts := gx_TB) ⟨X.1, X.2.1, X.2.2.1, X.2.2.2.1, hts⟩ hM ⟨callB_of n hts (gx_goodT m5) rfl rfl rfl (hts _ m4) (hts _ m1) hy ⟨hd, hR2⟩, hts _ m2⟩ ⟨px_blind, fun U hU hW => ⟨rfl, X.2.2.2.2.2.1.moved hW hU hs, by rw [hU]; exact hw⟩⟩ rfl hn hl.1 hst (lv_room hrest) hdg ⟨Nat.le_refl 0, Nat.le_refl 0⟩
theorem px_ki {post : Int32 → gx_S → Prop} {a : Array Value} (hr : px_Run E nL pc lv st0 rest u (va_Qi post (px_B (ex_Z E)) (px_A (ex_Z E)) a)) (kk : ∀ (r : Int32) (u' : gx_S), post r u' → px_Wc E nL (pc + 3) lv (.int r :: rest) u') : px_Wc E nL pc lv st0 u := fun H locs ls hl hw hs =>
  va_calli (hr H locs ls hl hw hs) hs (fun _ _ h => h) (fun _ h => h) (fun r u' t H1 locs1 ht _ hp hB _ _ hS => kk r u' hp H1 locs1 ls hl (by rw [← ht]; exact hB) hS)
theorem px_kl {post : Int64 → gx_S → Prop} {a : Array Value} (hr : px_Run E nL pc lv st0 rest u (va_Ql post (px_B (ex_Z E)) (px_A (ex_Z E)) a)) (kk : ∀ (r : Int64) (u' : gx_S), post r u' → px_Wc E nL (pc + 3) lv (.long r :: rest) u') : px_Wc E nL pc lv st0 u := fun H locs ls hl hw hs =>
  va_calll (hr H locs ls hl hw hs) hs (fun _ _ h => h) (fun _ h => h) (fun r u' t H1 locs1 ht _ hp hB _ _ hS => kk r u' hp H1 locs1 ls hl (by rw [← ht]; exact hB) hS)
end PC

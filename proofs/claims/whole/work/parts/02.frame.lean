/-! THE WORLD AS ONE PURE STATE. All cells that live behind the constructors have numbers below gx_N (those below gx_Nw may be written, the rest are constant arrays of statics); a pure state s: int fields, long fields, reference fields (a number of a cell), arrays. -/
abbrev gx_S : Type := (Nat → Nat → Int32) × (Nat → Nat → Int64) × (Nat → Nat → Nat) × (Nat → Nat → Int32)
abbrev gx_Z : Type := va_G × (Nat → Nat) × (Nat → ClassId)
def gx_i (u : gx_S) (o k : Nat) : Int32 := u.1 o k
def gx_l (u : gx_S) (o k : Nat) : Int64 := u.2.1 o k
def gx_r (u : gx_S) (o k : Nat) : Nat := u.2.2.1 o k
def gx_a (u : gx_S) (o : Nat) : Nat → Int32 := u.2.2.2 o
def gx_pi (u : gx_S) (o k : Nat) (x : Int32) : gx_S := (fun a b => if a = o ∧ b = k then x else u.1 a b, u.2.1, u.2.2.1, u.2.2.2)
def gx_pl (u : gx_S) (o k : Nat) (x : Int64) : gx_S := (u.1, fun a b => if a = o ∧ b = k then x else u.2.1 a b, u.2.2.1, u.2.2.2)
def gx_pr (u : gx_S) (o k : Nat) (x : Nat) : gx_S := (u.1, u.2.1, fun a b => if a = o ∧ b = k then x else u.2.2.1 a b, u.2.2.2)
def gx_pa (u : gx_S) (o : Nat) (f : Nat → Int32) : gx_S := (u.1, u.2.1, u.2.2.1, fun a => if a = o then f else u.2.2.2 a)
theorem gx_i_pi (u : gx_S) (o k a b : Nat) (x : Int32) : gx_i (gx_pi u o k x) a b = if a = o ∧ b = k then x else gx_i u a b := rfl
theorem gx_i_pl (u : gx_S) (o k a b : Nat) (x : Int64) : gx_i (gx_pl u o k x) a b = gx_i u a b := rfl
theorem gx_i_pr (u : gx_S) (o k a b : Nat) (x : Nat) : gx_i (gx_pr u o k x) a b = gx_i u a b := rfl
theorem gx_i_pa (u : gx_S) (o a b : Nat) (f : Nat → Int32) : gx_i (gx_pa u o f) a b = gx_i u a b := rfl
theorem gx_l_pi (u : gx_S) (o k a b : Nat) (x : Int32) : gx_l (gx_pi u o k x) a b = gx_l u a b := rfl
theorem gx_l_pl (u : gx_S) (o k a b : Nat) (x : Int64) : gx_l (gx_pl u o k x) a b = if a = o ∧ b = k then x else gx_l u a b := rfl
theorem gx_l_pr (u : gx_S) (o k a b : Nat) (x : Nat) : gx_l (gx_pr u o k x) a b = gx_l u a b := rfl
theorem gx_l_pa (u : gx_S) (o a b : Nat) (f : Nat → Int32) : gx_l (gx_pa u o f) a b = gx_l u a b := rfl
theorem gx_r_pi (u : gx_S) (o k a b : Nat) (x : Int32) : gx_r (gx_pi u o k x) a b = gx_r u a b := rfl
theorem gx_r_pl (u : gx_S) (o k a b : Nat) (x : Int64) : gx_r (gx_pl u o k x) a b = gx_r u a b := rfl
theorem gx_r_pr (u : gx_S) (o k a b : Nat) (x : Nat) : gx_r (gx_pr u o k x) a b = if a = o ∧ b = k then x else gx_r u a b := rfl
theorem gx_r_pa (u : gx_S) (o a b : Nat) (f : Nat → Int32) : gx_r (gx_pa u o f) a b = gx_r u a b := rfl
theorem gx_a_pi (u : gx_S) (o k a : Nat) (x : Int32) : gx_a (gx_pi u o k x) a = gx_a u a := rfl
theorem gx_a_pl (u : gx_S) (o k a : Nat) (x : Int64) : gx_a (gx_pl u o k x) a = gx_a u a := rfl
theorem gx_a_pr (u : gx_S) (o k a : Nat) (x : Nat) : gx_a (gx_pr u o k x) a = gx_a u a := rfl
theorem gx_a_pa (u : gx_S) (o a : Nat) (f : Nat → Int32) : gx_a (gx_pa u o f) a = if a = o then f else gx_a u a := rfl
def gx_len (a : Nat) : Nat := match gx_kd a with
  | .inl q => q.1
  | .inr _ => 0
/-- an object of the ci-th of 'classes' -/
def gx_isO (o ci : Nat) : Prop := o < gx_Nw ∧ gx_kd o = .inr ci
/-- an array that is read -/
def gx_isR (a : Nat) (ty : FieldType) : Prop := a < gx_N ∧ gx_kd a = .inl (gx_len a, ty)
/-- an array that may be written -/
def gx_isA (a : Nat) (ty : FieldType) : Prop := a < gx_Nw ∧ gx_kd a = .inl (gx_len a, ty)
theorem gx_isA.r {a : Nat} {ty : FieldType} (h : gx_isA a ty) : gx_isR a ty := ⟨Nat.lt_of_lt_of_le h.1 gx_NwN, h.2⟩
def gx_fv (Z : gx_Z) (u : gx_S) (o ci k : Nat) : Value := match gx_ty ci k with
  | .long => .long (gx_l u o k)
  | .object _ => .ref (Z.2.1 (gx_r u o k))
  | .array _ => .ref (Z.2.1 (gx_r u o k))
  | _ => .int (gx_i u o k)
def gx_nf (ci : Nat) : Nat := match classes[ci]? with
  | some q => q.2.2
  | none => 0
def gx_ro (Z : gx_Z) (u : gx_S) (i n : Nat) (H : Heap) : Prop := ∃ cell : Cell, H[Z.2.1 i]? = some cell ∧ cell.cls = Z.2.2 i ∧ cell.vm ≠ .unknown ∧ (∀ k, cell.vm ≠ .statics k) ∧ (n ≤ cell.slots.size ∧ cell.slots.size.toInt32 = Int32.ofNat n) ∧ ∀ j, j < n → cell.slots[j]? = some (.int (gx_a u i j))
def gx_at (Z : gx_Z) (u : gx_S) (i : Nat) (H : Heap) : Prop := match gx_kd i with
  | .inl q => (∀ j, j < q.1 → fits q.2 (.int (gx_a u i j)) = true) ∧ (i < gx_Nw → H[Z.2.1 i]? = some (vp_cell (Z.2.2 i) (q.1, .inl (gx_a u i)))) ∧ (¬ i < gx_Nw → gx_ro Z u i q.1 H)
  | .inr ci => t_OB (Z.2.1 i) (Z.1.1 ci) (gx_nf ci) (Z.1.2 ci) H (gx_fv Z u i ci)
def gx_W (Z : gx_Z) (u : gx_S) (H : Heap) : Prop := ∀ i, i < gx_N → gx_at Z u i H
def gx_A (Z : gx_Z) : Nat → Prop := fun q => ∃ i, i < gx_Nw ∧ Z.2.1 i = q
def gx_K (Z : gx_Z) (U : State) : Prop := (∀ (c : Nat) (q : vw_C), classes[c]? = some q → u_Kn U q.1 q.2.1 q.2.2 (Z.1.1 c) (Z.1.2 c)) ∧ (∀ (i : Nat) (q : Nat × FieldType), i < gx_N → gx_kd i = .inl q → ∃ k, U.vm.classes[Z.2.2 i]? = some k ∧ ∃ comp, k.kind = .array comp q.2) ∧ (∀ i j, i < gx_N → j < gx_N → Z.2.1 i = Z.2.1 j → i = j) ∧ (∀ q ∈ gx_nest, va_Nw (.methodLinkNest q.1 q.2.1 q.2.2.1 q.2.2.2) U) ∧ (∀ q ∈ gx_stat, va_Z q.1 q.2.1 q.2.2.1 (.ref (Z.2.1 q.2.2.2)) (gx_A Z) U U.heap)
theorem gx_K.moved {Z : gx_Z} {s U : State} {H : Heap} {locs : List Loc} (h : gx_K Z s) (hW : s.WarmedH U.vm) (hH : U.heap = H) (hS : va_S (gx_A Z) s.heap H locs) : gx_K Z U := by
  obtain ⟨h1, h2, h3, h4, h5⟩ := h
  refine ⟨fun c q hq => u_Kn_moved hW.alike (h1 c q hq), fun i q hi hq => ?_, h3, fun q hq => va_Nw.warmM hW (h4 q hq), fun q hq => ?_⟩
  · obtain ⟨k, hk, comp, hkk⟩ := h2 i q hi hq
    obtain ⟨k', hk', he⟩ := hW.alike.2.2 _ _ hk
    exact ⟨k', hk', comp, by rw [he]; exact hkk⟩
  · exact ((h5 q hq).kept (H1 := U.heap) (fun a h1 h2 => by rw [hH]; exact hS.2.1 a h1 h2)).moved hW.alike
theorem gx_K.calling {Z : gx_Z} {U : State} {g : JFrame} {mk : MethodId} {a : Array Value} (h : gx_K Z U) : gx_K Z (U.calling g mk a) := by
  obtain ⟨h1, h2, h3, h4, h5⟩ := h
  exact ⟨fun c q hq => u_Kn_moved (u := U) (Vm.Alike.refl U.vm) (h1 c q hq), h2, h3, fun q hq => va_Nw.same (u := U) rfl rfl (h4 q hq), fun q hq => va_Z.moved (u := U) (Vm.Alike.refl U.vm) (h5 q hq)⟩
abbrev gx_E : Type := Program × Launch × Env × State × MethodId × Array Value × List Frame × Method × Code × Nat × (Array Value → State → Outcome → State → Prop) × gx_Z
abbrev ex_p (E : gx_E) : Program := E.1
abbrev ex_l (E : gx_E) : Launch := E.2.1
abbrev ex_e (E : gx_E) : Env := E.2.2.1
abbrev ex_s (E : gx_E) : State := E.2.2.2.1
abbrev ex_m (E : gx_E) : MethodId := E.2.2.2.2.1
abbrev ex_args (E : gx_E) : Array Value := E.2.2.2.2.2.1
abbrev ex_below (E : gx_E) : List Frame := E.2.2.2.2.2.2.1
abbrev ex_meth (E : gx_E) : Method := E.2.2.2.2.2.2.2.1
abbrev ex_c (E : gx_E) : Code := E.2.2.2.2.2.2.2.2.1
abbrev ex_d (E : gx_E) : Nat := E.2.2.2.2.2.2.2.2.2.1
abbrev ex_Q (E : gx_E) : Array Value → State → Outcome → State → Prop := E.2.2.2.2.2.2.2.2.2.2.1
abbrev ex_Z (E : gx_E) : gx_Z := E.2.2.2.2.2.2.2.2.2.2.2
abbrev ex_ad (E : gx_E) (i : Nat) : Nat := (ex_Z E).2.1 i
def gx_rm (d : Nat) : Room := { frames := d, cells := 0, slots := 0, locals := 40 * d }
def gx_B (Z : gx_Z) (u : gx_S) (t : State) : Prop := gx_W Z u t.heap
def gx_Pre (Z : gx_Z) (u : gx_S) (av : List Value) : Array Value → State → Prop := va_Pc av (fun U => gx_K Z U ∧ gx_W Z u U.heap)
/-- the machine at pc, with these locals and this stack, over the pure state u, comes to the method's end with its post -/
def gx_Wc (E : gx_E) (nL pc : Nat) (lv : List (Nat × Value)) (st : List Value) (u : gx_S) : Prop :=
  ∀ (H : Heap) (locs : List Loc) (ls : Array Slot), lv_has ls nL lv → gx_W (ex_Z E) u H → va_S (gx_A (ex_Z E)) (ex_s E).heap H locs →
    W (ex_p E) (ex_l E) (ex_e E) (gx_rm (ex_d E)) (ex_s E) (ex_m E) (ex_args E) (ex_below E) (ex_meth E) (ex_c E) H locs 0 0 (MQ (ex_below E) (ex_Q E) (ex_args E) (ex_s E) 0 0 (gx_A (ex_Z E))) (F0 (ex_m E) pc ls st)
def gx_X (E : gx_E) (cc : ByteArray) (nL : Nat) (own : String) (ret : Option FieldType) : Prop :=
  (ex_p E).tables.exec = Jvm.exec ∧ (ex_c E).code = cc ∧ (ex_c E).maxLocals = nL ∧ (ex_s E).vm.findClass own = some (ex_m E).cls ∧ (∀ w ∈ gx_TB, w.before (ex_args E) (ex_s E) = true) ∧ gx_K (ex_Z E) (ex_s E) ∧ (ex_meth E).sig.returnType = ret ∧ (ex_meth E).locks = false
theorem gx_good {y y2 : MethodName} {b b2 : ByteArray} {n n2 : Nat} {r r2 : Option FieldType} (h : Cond.code y2 b2 n2 r2 ∈ gx_TB) : GoodIn (Cond.code y b n r :: gx_TB) (Cond.code y2 b2 n2 r2 :: gx_TB) := by
  intro w hw
  rcases List.mem_cons.mp hw with rfl | hw
  · exact ⟨List.mem_cons_of_mem _ h, Or.inl rfl⟩
  · exact ⟨List.mem_cons_of_mem _ hw, good_of_word (gx_TBgood w hw)⟩
theorem gx_goodT {y2 : MethodName} {b2 : ByteArray} {n2 : Nat} {r2 : Option FieldType} (h : Cond.code y2 b2 n2 r2 ∈ gx_TB) : GoodIn gx_TB (Cond.code y2 b2 n2 r2 :: gx_TB) := by
  intro w hw
  rcases List.mem_cons.mp hw with rfl | hw
  · exact ⟨h, Or.inl rfl⟩
  · exact ⟨hw, good_of_word (gx_TBgood w hw)⟩
/-- a contract out of the walk of a body -/
theorem gx_met {l : Launch} {y : MethodName} {cc : ByteArray} {maxL : Nat} {ret : Option FieldType} {d : Nat} {av : List Value} {u : gx_S} {Z : gx_Z} {Qc : Array Value → State → Outcome → State → Prop} (hy : plainName y.cls = true) (hlen : (lg_sl av).length ≤ maxL)
    (body : ∀ E : gx_E, gx_X E cc maxL y.cls ret → ex_Z E = Z → ex_Q E = Qc → ex_d E = d → ex_l E = l → gx_Wc E maxL 0 (lv_args 0 av) [] u) : Met l y (Cond.code y cc maxL ret :: gx_TB) (gx_rm d) (gx_Pre Z u av) Qc 0 0 (gx_A Z) := by
  refine Met.ofW (cc := cc) (maxL := maxL) (ret := ret) hy rfl ?_
  intro p e s m args below meth c s₁ B hml hv
  obtain ⟨rfl, hK, hW⟩ := hv
  have hts := atoms_spec (ws := Cond.code y cc maxL ret :: gx_TB) B.pre
  have hown : s.vm.findClass y.cls = some m.cls := findClass_of_methodNamed B.named
  have hl := lv_entry av (n := maxL) hlen
  rw [lg_entry_eq]
  exact body (p, l, e, s, m, av.toArray, below, meth, c, d, Qc, Z) ⟨B.exec, B.bytes, hml, hown, fun w hw => hts w (List.mem_cons_of_mem _ hw), hK, B.returns, B.notSynchronized⟩ rfl rfl rfl rfl s.heap [] _ hl hW va_S.rf
section GX
variable {E : gx_E} {cc : ByteArray} {nL : Nat} {own : String} {ret : Option FieldType} {pc : Nat} {lv : List (Nat × Value)} {st : List Value} {u : gx_S}
theorem gx_nami {x : Int32} (k : ∀ y : Int32, y = x → gx_Wc E nL pc lv (.int y :: st) u) : gx_Wc E nL pc lv (.int x :: st) u := k x rfl
theorem gx_naml {x : Int64} (k : ∀ y : Int64, y = x → gx_Wc E nL pc lv (.long y :: st) u) : gx_Wc E nL pc lv (.long x :: st) u := k x rfl
theorem gx_nams (k : ∀ t : gx_S, t = u → gx_Wc E nL pc lv st t) : gx_Wc E nL pc lv st u := k u rfl
theorem gx_sub {lv' : List (Nat × Value)} (ks : List Nat) (hl : lv_pick lv ks = lv') (k : gx_Wc E nL pc lv' st u) : gx_Wc E nL pc lv st u := fun H locs ls h hw hs => k H locs ls (lv_sub h ks hl) hw hs
theorem gx_iconst (X : gx_X E cc nL own ret) {n : Int} {v : Int32} (hdg : decode cc pc = .ok (.iconst n, 1)) (hv : Int32.ofInt n = v)
    (k : gx_Wc E nL (pc + 1) lv (.int v :: st) u) : gx_Wc E nL pc lv st u := fun H locs ls hl hw hs => lv_iconst X.1 X.2.1 hdg hv (k H locs ls hl hw hs)
theorem gx_bipush (X : gx_X E cc nL own ret) {n : Int} {v : Int32} (hdg : decode cc pc = .ok (.bipush n, 2)) (hv : (Int8.ofInt n).toInt32 = v)
    (k : gx_Wc E nL (pc + 2) lv (.int v :: st) u) : gx_Wc E nL pc lv st u := fun H locs ls hl hw hs => lv_bipush X.1 X.2.1 hdg hv (k H locs ls hl hw hs)
theorem gx_sipush (X : gx_X E cc nL own ret) {n : Int} {v : Int32} (hdg : decode cc pc = .ok (.sipush n, 3)) (hv : (Int16.ofInt n).toInt32 = v)
    (k : gx_Wc E nL (pc + 3) lv (.int v :: st) u) : gx_Wc E nL pc lv st u := fun H locs ls hl hw hs => lv_sipush X.1 X.2.1 hdg hv (k H locs ls hl hw hs)
theorem gx_lconst (X : gx_X E cc nL own ret) {n : Fin 2} {v : Int64} (hdg : decode cc pc = .ok (.lconst n, 1)) (hv : Int64.ofNat (n : Nat) = v)
    (k : gx_Wc E nL (pc + 1) lv (.long v :: st) u) : gx_Wc E nL pc lv st u := fun H locs ls hl hw hs => lv_lconst X.1 X.2.1 hdg hv (k H locs ls hl hw hs)
theorem gx_iload_n (X : gx_X E cc nL own ret) {k : Fin 4} {i j : Nat} {x : Int32} (hdg : decode cc pc = .ok (.iload_n k, 1)) (hi : (k : Nat) = i) (hj : lv[j]? = some (i, .int x))
    (kk : gx_Wc E nL (pc + 1) lv (.int x :: st) u) : gx_Wc E nL pc lv st u := fun H locs ls hl hw hs => lv_iload_n X.1 X.2.1 hdg hi (lv_at hl j hj) (kk H locs ls hl hw hs)
theorem gx_iload (X : gx_X E cc nL own ret) {i j : Nat} {x : Int32} (hdg : decode cc pc = .ok (.iload i, 2)) (hj : lv[j]? = some (i, .int x))
    (kk : gx_Wc E nL (pc + 2) lv (.int x :: st) u) : gx_Wc E nL pc lv st u := fun H locs ls hl hw hs => lv_iload X.1 X.2.1 hdg (lv_at hl j hj) (kk H locs ls hl hw hs)
theorem gx_lload_n (X : gx_X E cc nL own ret) {k : Fin 4} {i j : Nat} {x : Int64} (hdg : decode cc pc = .ok (.lload_n k, 1)) (hi : (k : Nat) = i) (hj : lv[j]? = some (i, .long x))
    (kk : gx_Wc E nL (pc + 1) lv (.long x :: st) u) : gx_Wc E nL pc lv st u := fun H locs ls hl hw hs => lv_lload_n X.1 X.2.1 hdg hi (lv_at hl j hj) (kk H locs ls hl hw hs)
theorem gx_lload (X : gx_X E cc nL own ret) {i j : Nat} {x : Int64} (hdg : decode cc pc = .ok (.lload i, 2)) (hj : lv[j]? = some (i, .long x))
    (kk : gx_Wc E nL (pc + 2) lv (.long x :: st) u) : gx_Wc E nL pc lv st u := fun H locs ls hl hw hs => lv_lload X.1 X.2.1 hdg (lv_at hl j hj) (kk H locs ls hl hw hs)
theorem gx_aload_n (X : gx_X E cc nL own ret) {k : Fin 4} {i j : Nat} {x : Nat} (hdg : decode cc pc = .ok (.aload_n k, 1)) (hi : (k : Nat) = i) (hj : lv[j]? = some (i, .ref x))
    (kk : gx_Wc E nL (pc + 1) lv (.ref x :: st) u) : gx_Wc E nL pc lv st u := fun H locs ls hl hw hs => lv_aload_n X.1 X.2.1 hdg hi (lv_at hl j hj) (kk H locs ls hl hw hs)
theorem gx_aload (X : gx_X E cc nL own ret) {i j : Nat} {x : Nat} (hdg : decode cc pc = .ok (.aload i, 2)) (hj : lv[j]? = some (i, .ref x))
    (kk : gx_Wc E nL (pc + 2) lv (.ref x :: st) u) : gx_Wc E nL pc lv st u := fun H locs ls hl hw hs => lv_aload X.1 X.2.1 hdg (lv_at hl j hj) (kk H locs ls hl hw hs)
theorem gx_istore_n (X : gx_X E cc nL own ret) {k : Fin 4} {i : Nat} {x : Int32} {lv' : List (Nat × Value)} (hdg : decode cc pc = .ok (.istore_n k, 1)) (hi : (k : Nat) = i) (hn : i < nL) (hl' : (i, Value.int x) :: lv.filter (fun q => !(q.1 == i) && !(q.1 + 1 == i && q.2.category == 2)) = lv')
    (kk : gx_Wc E nL (pc + 1) lv' st u) : gx_Wc E nL pc lv (.int x :: st) u := fun H locs ls hl hw hs => lv_istore_n X.1 X.2.1 hdg hi hl hn hl' (fun ls' h' => kk H locs ls' h' hw hs)
theorem gx_istore (X : gx_X E cc nL own ret) {i : Nat} {x : Int32} {lv' : List (Nat × Value)} (hdg : decode cc pc = .ok (.istore i, 2)) (hn : i < nL) (hl' : (i, Value.int x) :: lv.filter (fun q => !(q.1 == i) && !(q.1 + 1 == i && q.2.category == 2)) = lv')
    (kk : gx_Wc E nL (pc + 2) lv' st u) : gx_Wc E nL pc lv (.int x :: st) u := fun H locs ls hl hw hs => lv_istore X.1 X.2.1 hdg hl hn hl' (fun ls' h' => kk H locs ls' h' hw hs)
theorem gx_lstore_n (X : gx_X E cc nL own ret) {k : Fin 4} {i : Nat} {x : Int64} {lv' : List (Nat × Value)} (hdg : decode cc pc = .ok (.lstore_n k, 1)) (hi : (k : Nat) = i) (hn : i + 1 < nL) (hl' : (i, Value.long x) :: lv.filter (fun q => !(q.1 == i) && (!(q.1 == i + 1) && !(q.1 + 1 == i && q.2.category == 2))) = lv')
    (kk : gx_Wc E nL (pc + 1) lv' st u) : gx_Wc E nL pc lv (.long x :: st) u := fun H locs ls hl hw hs => lv_lstore_n X.1 X.2.1 hdg hi hl hn hl' (fun ls' h' => kk H locs ls' h' hw hs)
theorem gx_lstore (X : gx_X E cc nL own ret) {i : Nat} {x : Int64} {lv' : List (Nat × Value)} (hdg : decode cc pc = .ok (.lstore i, 2)) (hn : i + 1 < nL) (hl' : (i, Value.long x) :: lv.filter (fun q => !(q.1 == i) && (!(q.1 == i + 1) && !(q.1 + 1 == i && q.2.category == 2))) = lv')
    (kk : gx_Wc E nL (pc + 2) lv' st u) : gx_Wc E nL pc lv (.long x :: st) u := fun H locs ls hl hw hs => lv_lstore X.1 X.2.1 hdg hl hn hl' (fun ls' h' => kk H locs ls' h' hw hs)
theorem gx_astore_n (X : gx_X E cc nL own ret) {k : Fin 4} {i : Nat} {x : Nat} {lv' : List (Nat × Value)} (hdg : decode cc pc = .ok (.astore_n k, 1)) (hi : (k : Nat) = i) (hn : i < nL) (hl' : (i, Value.ref x) :: lv.filter (fun q => !(q.1 == i) && !(q.1 + 1 == i && q.2.category == 2)) = lv')
    (kk : gx_Wc E nL (pc + 1) lv' st u) : gx_Wc E nL pc lv (.ref x :: st) u := fun H locs ls hl hw hs => lv_astore_n X.1 X.2.1 hdg hi hl hn hl' (fun ls' h' => kk H locs ls' h' hw hs)
theorem gx_astore (X : gx_X E cc nL own ret) {i : Nat} {x : Nat} {lv' : List (Nat × Value)} (hdg : decode cc pc = .ok (.astore i, 2)) (hn : i < nL) (hl' : (i, Value.ref x) :: lv.filter (fun q => !(q.1 == i) && !(q.1 + 1 == i && q.2.category == 2)) = lv')
    (kk : gx_Wc E nL (pc + 2) lv' st u) : gx_Wc E nL pc lv (.ref x :: st) u := fun H locs ls hl hw hs => lv_astore X.1 X.2.1 hdg hl hn hl' (fun ls' h' => kk H locs ls' h' hw hs)
theorem gx_iinc (X : gx_X E cc nL own ret) {i j : Nat} {n : Int} {x v : Int32} {lv' : List (Nat × Value)} (hdg : decode cc pc = .ok (.iinc i n, 3)) (hj : lv[j]? = some (i, .int x)) (hv : x + Int32.ofInt n = v) (hn : i < nL) (hl' : (i, Value.int v) :: lv.filter (fun q => !(q.1 == i) && !(q.1 + 1 == i && q.2.category == 2)) = lv')
    (kk : gx_Wc E nL (pc + 3) lv' st u) : gx_Wc E nL pc lv st u := fun H locs ls hl hw hs => lv_iinc X.1 X.2.1 hdg hl hj hv hn hl' (fun ls' h' => kk H locs ls' h' hw hs)
theorem gx_iadd (X : gx_X E cc nL own ret) {x y : Int32} (hdg : decode cc pc = .ok (.iadd, 1))
    (k : gx_Wc E nL (pc + 1) lv (.int (x + y) :: st) u) : gx_Wc E nL pc lv (.int y :: .int x :: st) u := fun H locs ls hl hw hs => lv_iadd X.1 X.2.1 hdg (k H locs ls hl hw hs)
theorem gx_isub (X : gx_X E cc nL own ret) {x y : Int32} (hdg : decode cc pc = .ok (.isub, 1))
    (k : gx_Wc E nL (pc + 1) lv (.int (x - y) :: st) u) : gx_Wc E nL pc lv (.int y :: .int x :: st) u := fun H locs ls hl hw hs => lv_isub X.1 X.2.1 hdg (k H locs ls hl hw hs)
theorem gx_imul (X : gx_X E cc nL own ret) {x y : Int32} (hdg : decode cc pc = .ok (.imul, 1))
    (k : gx_Wc E nL (pc + 1) lv (.int (x * y) :: st) u) : gx_Wc E nL pc lv (.int y :: .int x :: st) u := fun H locs ls hl hw hs => lv_imul X.1 X.2.1 hdg (k H locs ls hl hw hs)
theorem gx_iand (X : gx_X E cc nL own ret) {x y : Int32} (hdg : decode cc pc = .ok (.iand, 1))
    (k : gx_Wc E nL (pc + 1) lv (.int (x &&& y) :: st) u) : gx_Wc E nL pc lv (.int y :: .int x :: st) u := fun H locs ls hl hw hs => lv_iand X.1 X.2.1 hdg (k H locs ls hl hw hs)
theorem gx_ior (X : gx_X E cc nL own ret) {x y : Int32} (hdg : decode cc pc = .ok (.ior, 1))
    (k : gx_Wc E nL (pc + 1) lv (.int (x ||| y) :: st) u) : gx_Wc E nL pc lv (.int y :: .int x :: st) u := fun H locs ls hl hw hs => lv_ior X.1 X.2.1 hdg (k H locs ls hl hw hs)
theorem gx_ixor (X : gx_X E cc nL own ret) {x y : Int32} (hdg : decode cc pc = .ok (.ixor, 1))
    (k : gx_Wc E nL (pc + 1) lv (.int (x ^^^ y) :: st) u) : gx_Wc E nL pc lv (.int y :: .int x :: st) u := fun H locs ls hl hw hs => lv_ixor X.1 X.2.1 hdg (k H locs ls hl hw hs)
theorem gx_ishl (X : gx_X E cc nL own ret) {x y : Int32} (hdg : decode cc pc = .ok (.ishl, 1))
    (k : gx_Wc E nL (pc + 1) lv (.int (x <<< (y &&& 31)) :: st) u) : gx_Wc E nL pc lv (.int y :: .int x :: st) u := fun H locs ls hl hw hs => lv_ishl X.1 X.2.1 hdg (k H locs ls hl hw hs)
theorem gx_ishr (X : gx_X E cc nL own ret) {x y : Int32} (hdg : decode cc pc = .ok (.ishr, 1))
    (k : gx_Wc E nL (pc + 1) lv (.int (x >>> (y &&& 31)) :: st) u) : gx_Wc E nL pc lv (.int y :: .int x :: st) u := fun H locs ls hl hw hs => lv_ishr X.1 X.2.1 hdg (k H locs ls hl hw hs)
theorem gx_idiv (X : gx_X E cc nL own ret) {x y : Int32} (hdg : decode cc pc = .ok (.idiv, 1)) (hne : ¬ y = 0)
    (k : gx_Wc E nL (pc + 1) lv (.int (x / y) :: st) u) : gx_Wc E nL pc lv (.int y :: .int x :: st) u := fun H locs ls hl hw hs => lv_idiv X.1 X.2.1 hdg hne (k H locs ls hl hw hs)
theorem gx_irem (X : gx_X E cc nL own ret) {x y : Int32} (hdg : decode cc pc = .ok (.irem, 1)) (hne : ¬ y = 0)
    (k : gx_Wc E nL (pc + 1) lv (.int (x - x / y * y) :: st) u) : gx_Wc E nL pc lv (.int y :: .int x :: st) u := fun H locs ls hl hw hs => lv_irem X.1 X.2.1 hdg hne (k H locs ls hl hw hs)
theorem gx_ineg (X : gx_X E cc nL own ret) {x : Int32} (hdg : decode cc pc = .ok (.ineg, 1))
    (k : gx_Wc E nL (pc + 1) lv (.int (-x) :: st) u) : gx_Wc E nL pc lv (.int x :: st) u := fun H locs ls hl hw hs => lv_ineg X.1 X.2.1 hdg (k H locs ls hl hw hs)
theorem gx_iushr (X : gx_X E cc nL own ret) {x y v : Int32} (hdg : decode cc pc = .ok (.iushr, 1)) (hv : (x.toUInt32 >>> (y.toUInt32 &&& Int32.toUInt32 31)).toInt32 = v)
    (k : gx_Wc E nL (pc + 1) lv (.int v :: st) u) : gx_Wc E nL pc lv (.int y :: .int x :: st) u := fun H locs ls hl hw hs => lv_iushr X.1 X.2.1 hdg hv (k H locs ls hl hw hs)
theorem gx_ladd (X : gx_X E cc nL own ret) {x y : Int64} (hdg : decode cc pc = .ok (.ladd, 1))
    (k : gx_Wc E nL (pc + 1) lv (.long (x + y) :: st) u) : gx_Wc E nL pc lv (.long y :: .long x :: st) u := fun H locs ls hl hw hs => lv_ladd X.1 X.2.1 hdg (k H locs ls hl hw hs)
theorem gx_lsub (X : gx_X E cc nL own ret) {x y : Int64} (hdg : decode cc pc = .ok (.lsub, 1))
    (k : gx_Wc E nL (pc + 1) lv (.long (x - y) :: st) u) : gx_Wc E nL pc lv (.long y :: .long x :: st) u := fun H locs ls hl hw hs => lv_lsub X.1 X.2.1 hdg (k H locs ls hl hw hs)
theorem gx_lmul (X : gx_X E cc nL own ret) {x y : Int64} (hdg : decode cc pc = .ok (.lmul, 1))
    (k : gx_Wc E nL (pc + 1) lv (.long (x * y) :: st) u) : gx_Wc E nL pc lv (.long y :: .long x :: st) u := fun H locs ls hl hw hs => lv_lmul X.1 X.2.1 hdg (k H locs ls hl hw hs)
theorem gx_land (X : gx_X E cc nL own ret) {x y : Int64} (hdg : decode cc pc = .ok (.land, 1))
    (k : gx_Wc E nL (pc + 1) lv (.long (x &&& y) :: st) u) : gx_Wc E nL pc lv (.long y :: .long x :: st) u := fun H locs ls hl hw hs => lv_land X.1 X.2.1 hdg (k H locs ls hl hw hs)
theorem gx_lor (X : gx_X E cc nL own ret) {x y : Int64} (hdg : decode cc pc = .ok (.lor, 1))
    (k : gx_Wc E nL (pc + 1) lv (.long (x ||| y) :: st) u) : gx_Wc E nL pc lv (.long y :: .long x :: st) u := fun H locs ls hl hw hs => lv_lor X.1 X.2.1 hdg (k H locs ls hl hw hs)
theorem gx_lxor (X : gx_X E cc nL own ret) {x y : Int64} (hdg : decode cc pc = .ok (.lxor, 1))
    (k : gx_Wc E nL (pc + 1) lv (.long (x ^^^ y) :: st) u) : gx_Wc E nL pc lv (.long y :: .long x :: st) u := fun H locs ls hl hw hs => lv_lxor X.1 X.2.1 hdg (k H locs ls hl hw hs)
theorem gx_ldiv (X : gx_X E cc nL own ret) {x y : Int64} (hdg : decode cc pc = .ok (.ldiv, 1)) (hne : ¬ y = 0)
    (k : gx_Wc E nL (pc + 1) lv (.long (x / y) :: st) u) : gx_Wc E nL pc lv (.long y :: .long x :: st) u := fun H locs ls hl hw hs => lv_ldiv X.1 X.2.1 hdg hne (k H locs ls hl hw hs)
theorem gx_lrem (X : gx_X E cc nL own ret) {x y : Int64} (hdg : decode cc pc = .ok (.lrem, 1)) (hne : ¬ y = 0)
    (k : gx_Wc E nL (pc + 1) lv (.long (x - x / y * y) :: st) u) : gx_Wc E nL pc lv (.long y :: .long x :: st) u := fun H locs ls hl hw hs => lv_lrem X.1 X.2.1 hdg hne (k H locs ls hl hw hs)
theorem gx_lushr (X : gx_X E cc nL own ret) {x v : Int64} {y : Int32} (hdg : decode cc pc = .ok (.lushr, 1)) (hv : (x.toUInt64 >>> (y.toInt64.toUInt64 &&& Int64.toUInt64 63)).toInt64 = v)
    (k : gx_Wc E nL (pc + 1) lv (.long v :: st) u) : gx_Wc E nL pc lv (.int y :: .long x :: st) u := fun H locs ls hl hw hs => lv_lushr X.1 X.2.1 hdg hv (k H locs ls hl hw hs)
theorem gx_lshl (X : gx_X E cc nL own ret) {x v : Int64} {y : Int32} (hdg : decode cc pc = .ok (.lshl, 1)) (hv : x <<< (y.toInt64 &&& 63) = v)
    (k : gx_Wc E nL (pc + 1) lv (.long v :: st) u) : gx_Wc E nL pc lv (.int y :: .long x :: st) u := fun H locs ls hl hw hs => lv_lshl X.1 X.2.1 hdg hv (k H locs ls hl hw hs)
theorem gx_lshr (X : gx_X E cc nL own ret) {x v : Int64} {y : Int32} (hdg : decode cc pc = .ok (.lshr, 1)) (hv : x >>> (y.toInt64 &&& 63) = v)
    (k : gx_Wc E nL (pc + 1) lv (.long v :: st) u) : gx_Wc E nL pc lv (.int y :: .long x :: st) u := fun H locs ls hl hw hs => lv_lshr X.1 X.2.1 hdg hv (k H locs ls hl hw hs)
theorem gx_i2l (X : gx_X E cc nL own ret) {x : Int32} {v : Int64} (hdg : decode cc pc = .ok (.i2l, 1)) (hv : x.toInt64 = v)
    (k : gx_Wc E nL (pc + 1) lv (.long v :: st) u) : gx_Wc E nL pc lv (.int x :: st) u := fun H locs ls hl hw hs => lv_i2l X.1 X.2.1 hdg hv (k H locs ls hl hw hs)
theorem gx_l2i (X : gx_X E cc nL own ret) {x : Int64} {v : Int32} (hdg : decode cc pc = .ok (.l2i, 1)) (hv : x.toInt32 = v)
    (k : gx_Wc E nL (pc + 1) lv (.int v :: st) u) : gx_Wc E nL pc lv (.long x :: st) u := fun H locs ls hl hw hs => lv_l2i X.1 X.2.1 hdg hv (k H locs ls hl hw hs)
theorem gx_i2b (X : gx_X E cc nL own ret) {x v : Int32} (hdg : decode cc pc = .ok (.i2b, 1)) (hv : x.toInt8.toInt32 = v)
    (k : gx_Wc E nL (pc + 1) lv (.int v :: st) u) : gx_Wc E nL pc lv (.int x :: st) u := fun H locs ls hl hw hs => lv_i2b X.1 X.2.1 hdg hv (k H locs ls hl hw hs)
theorem gx_dup (X : gx_X E cc nL own ret) {a : Value} (hdg : decode cc pc = .ok (.dup, 1)) (h1 : a.category = 1)
    (k : gx_Wc E nL (pc + 1) lv (a :: a :: st) u) : gx_Wc E nL pc lv (a :: st) u := fun H locs ls hl hw hs => lv_dup X.1 X.2.1 hdg h1 (k H locs ls hl hw hs)
theorem gx_pop (X : gx_X E cc nL own ret) {a : Value} (hdg : decode cc pc = .ok (.pop, 1)) (h1 : a.category = 1)
    (k : gx_Wc E nL (pc + 1) lv st u) : gx_Wc E nL pc lv (a :: st) u := fun H locs ls hl hw hs => lv_pop X.1 X.2.1 hdg h1 (k H locs ls hl hw hs)
theorem gx_dup_x1 (X : gx_X E cc nL own ret) {a b : Value} (hdg : decode cc pc = .ok (.dup_x1, 1)) (h1 : a.category = 1) (h2 : b.category = 1)
    (k : gx_Wc E nL (pc + 1) lv (a :: b :: a :: st) u) : gx_Wc E nL pc lv (a :: b :: st) u := fun H locs ls hl hw hs => lv_dup_x1 X.1 X.2.1 hdg h1 h2 (k H locs ls hl hw hs)
theorem gx_dup_x2 (X : gx_X E cc nL own ret) {a b d : Value} (hdg : decode cc pc = .ok (.dup_x2, 1)) (h1 : a.category = 1) (h2 : b.category = 1) (h3 : d.category = 1)
    (k : gx_Wc E nL (pc + 1) lv (a :: b :: d :: a :: st) u) : gx_Wc E nL pc lv (a :: b :: d :: st) u := fun H locs ls hl hw hs => lv_dup_x2 X.1 X.2.1 hdg h1 h2 h3 (k H locs ls hl hw hs)
theorem gx_dup2_11 (X : gx_X E cc nL own ret) {a b : Value} (hdg : decode cc pc = .ok (.dup2, 1)) (h1 : a.category = 1) (h2 : b.category = 1)
    (k : gx_Wc E nL (pc + 1) lv (a :: b :: a :: b :: st) u) : gx_Wc E nL pc lv (a :: b :: st) u := fun H locs ls hl hw hs => lv_dup2_11 X.1 X.2.1 hdg h1 h2 (k H locs ls hl hw hs)
theorem gx_dup2_2 (X : gx_X E cc nL own ret) {a : Value} (hdg : decode cc pc = .ok (.dup2, 1)) (h1 : a.category = 2)
    (k : gx_Wc E nL (pc + 1) lv (a :: a :: st) u) : gx_Wc E nL pc lv (a :: st) u := fun H locs ls hl hw hs => lv_dup2_2 X.1 X.2.1 hdg h1 (k H locs ls hl hw hs)
theorem gx_lcmp (X : gx_X E cc nL own ret) {x y : Int64} (hdg : decode cc pc = .ok (.lcmp, 1))
    (k : gx_Wc E nL (pc + 1) lv (.int (lg_cmp x y) :: st) u) : gx_Wc E nL pc lv (.long y :: .long x :: st) u := fun H locs ls hl hw hs => W.lcmp X.1 X.2.1 hdg (k H locs ls hl hw hs)
theorem gx_goto (X : gx_X E cc nL own ret) {off : Int} {tgt : Nat} (hdg : decode cc pc = .ok (.goto off, 3)) (ht : (pc : Int) + off = (tgt : Int))
    (k : gx_Wc E nL tgt lv st u) : gx_Wc E nL pc lv st u := fun H locs ls hl hw hs => lv_goto X.1 X.2.1 hdg ht (k H locs ls hl hw hs)
theorem gx_ldc (X : gx_X E cc nL own ret) {idx : Nat} {v : Int32} (hm : Cond.constant own idx v ∈ gx_TB) (hdg : decode cc pc = .ok (.ldc idx, 2))
    (k : gx_Wc E nL (pc + 2) lv (.int v :: st) u) : gx_Wc E nL pc lv st u := fun H locs ls hl hw hs => lv_ldc X.1 X.2.1 X.2.2.2.1 (X.2.2.2.2.1 _ hm) hdg (k H locs ls hl hw hs)
theorem gx_ldc2 (X : gx_X E cc nL own ret) {idx : Nat} {v : Int64} (hm : Cond.constantLong own idx v ∈ gx_TB) (hdg : decode cc pc = .ok (.ldc2_w idx, 3))
    (k : gx_Wc E nL (pc + 3) lv (.long v :: st) u) : gx_Wc E nL pc lv st u := fun H locs ls hl hw hs => lv_ldc2 X.1 X.2.1 X.2.2.2.1 (X.2.2.2.2.1 _ hm) hdg (k H locs ls hl hw hs)
theorem gx_if_eq (X : gx_X E cc nL own ret) {x : Int32} {off : Int} {tgt : Nat} (hdg : decode cc pc = .ok (.ifCond .eq off, 3)) (ht : (pc : Int) + off = (tgt : Int))
    (kt : x = 0 → gx_Wc E nL tgt lv st u) (kf : ¬ x = 0 → gx_Wc E nL (pc + 3) lv st u) : gx_Wc E nL pc lv (.int x :: st) u := fun H locs ls hl hw hs => lv_if_eq X.1 X.2.1 hdg ht (fun q => kt q H locs ls hl hw hs) (fun q => kf q H locs ls hl hw hs)
theorem gx_icmp_eq (X : gx_X E cc nL own ret) {x y : Int32} {off : Int} {tgt : Nat} (hdg : decode cc pc = .ok (.if_icmp .eq off, 3)) (ht : (pc : Int) + off = (tgt : Int))
    (kt : x = y → gx_Wc E nL tgt lv st u) (kf : ¬ x = y → gx_Wc E nL (pc + 3) lv st u) : gx_Wc E nL pc lv (.int y :: .int x :: st) u := fun H locs ls hl hw hs => lv_icmp_eq X.1 X.2.1 hdg ht (fun q => kt q H locs ls hl hw hs) (fun q => kf q H locs ls hl hw hs)
theorem gx_if_ne (X : gx_X E cc nL own ret) {x : Int32} {off : Int} {tgt : Nat} (hdg : decode cc pc = .ok (.ifCond .ne off, 3)) (ht : (pc : Int) + off = (tgt : Int))
    (kt : ¬ x = 0 → gx_Wc E nL tgt lv st u) (kf : x = 0 → gx_Wc E nL (pc + 3) lv st u) : gx_Wc E nL pc lv (.int x :: st) u := fun H locs ls hl hw hs => lv_if_ne X.1 X.2.1 hdg ht (fun q => kt q H locs ls hl hw hs) (fun q => kf q H locs ls hl hw hs)
theorem gx_icmp_ne (X : gx_X E cc nL own ret) {x y : Int32} {off : Int} {tgt : Nat} (hdg : decode cc pc = .ok (.if_icmp .ne off, 3)) (ht : (pc : Int) + off = (tgt : Int))
    (kt : ¬ x = y → gx_Wc E nL tgt lv st u) (kf : x = y → gx_Wc E nL (pc + 3) lv st u) : gx_Wc E nL pc lv (.int y :: .int x :: st) u := fun H locs ls hl hw hs => lv_icmp_ne X.1 X.2.1 hdg ht (fun q => kt q H locs ls hl hw hs) (fun q => kf q H locs ls hl hw hs)
theorem gx_if_lt (X : gx_X E cc nL own ret) {x : Int32} {off : Int} {tgt : Nat} (hdg : decode cc pc = .ok (.ifCond .lt off, 3)) (ht : (pc : Int) + off = (tgt : Int))
    (kt : x < 0 → gx_Wc E nL tgt lv st u) (kf : ¬ x < 0 → gx_Wc E nL (pc + 3) lv st u) : gx_Wc E nL pc lv (.int x :: st) u := fun H locs ls hl hw hs => lv_if_lt X.1 X.2.1 hdg ht (fun q => kt q H locs ls hl hw hs) (fun q => kf q H locs ls hl hw hs)
theorem gx_icmp_lt (X : gx_X E cc nL own ret) {x y : Int32} {off : Int} {tgt : Nat} (hdg : decode cc pc = .ok (.if_icmp .lt off, 3)) (ht : (pc : Int) + off = (tgt : Int))
    (kt : x < y → gx_Wc E nL tgt lv st u) (kf : ¬ x < y → gx_Wc E nL (pc + 3) lv st u) : gx_Wc E nL pc lv (.int y :: .int x :: st) u := fun H locs ls hl hw hs => lv_icmp_lt X.1 X.2.1 hdg ht (fun q => kt q H locs ls hl hw hs) (fun q => kf q H locs ls hl hw hs)
theorem gx_if_ge (X : gx_X E cc nL own ret) {x : Int32} {off : Int} {tgt : Nat} (hdg : decode cc pc = .ok (.ifCond .ge off, 3)) (ht : (pc : Int) + off = (tgt : Int))
    (kt : 0 ≤ x → gx_Wc E nL tgt lv st u) (kf : ¬ 0 ≤ x → gx_Wc E nL (pc + 3) lv st u) : gx_Wc E nL pc lv (.int x :: st) u := fun H locs ls hl hw hs => lv_if_ge X.1 X.2.1 hdg ht (fun q => kt q H locs ls hl hw hs) (fun q => kf q H locs ls hl hw hs)
theorem gx_icmp_ge (X : gx_X E cc nL own ret) {x y : Int32} {off : Int} {tgt : Nat} (hdg : decode cc pc = .ok (.if_icmp .ge off, 3)) (ht : (pc : Int) + off = (tgt : Int))
    (kt : y ≤ x → gx_Wc E nL tgt lv st u) (kf : ¬ y ≤ x → gx_Wc E nL (pc + 3) lv st u) : gx_Wc E nL pc lv (.int y :: .int x :: st) u := fun H locs ls hl hw hs => lv_icmp_ge X.1 X.2.1 hdg ht (fun q => kt q H locs ls hl hw hs) (fun q => kf q H locs ls hl hw hs)
theorem gx_if_gt (X : gx_X E cc nL own ret) {x : Int32} {off : Int} {tgt : Nat} (hdg : decode cc pc = .ok (.ifCond .gt off, 3)) (ht : (pc : Int) + off = (tgt : Int))
    (kt : 0 < x → gx_Wc E nL tgt lv st u) (kf : ¬ 0 < x → gx_Wc E nL (pc + 3) lv st u) : gx_Wc E nL pc lv (.int x :: st) u := fun H locs ls hl hw hs => lv_if_gt X.1 X.2.1 hdg ht (fun q => kt q H locs ls hl hw hs) (fun q => kf q H locs ls hl hw hs)
theorem gx_icmp_gt (X : gx_X E cc nL own ret) {x y : Int32} {off : Int} {tgt : Nat} (hdg : decode cc pc = .ok (.if_icmp .gt off, 3)) (ht : (pc : Int) + off = (tgt : Int))
    (kt : y < x → gx_Wc E nL tgt lv st u) (kf : ¬ y < x → gx_Wc E nL (pc + 3) lv st u) : gx_Wc E nL pc lv (.int y :: .int x :: st) u := fun H locs ls hl hw hs => lv_icmp_gt X.1 X.2.1 hdg ht (fun q => kt q H locs ls hl hw hs) (fun q => kf q H locs ls hl hw hs)
theorem gx_if_le (X : gx_X E cc nL own ret) {x : Int32} {off : Int} {tgt : Nat} (hdg : decode cc pc = .ok (.ifCond .le off, 3)) (ht : (pc : Int) + off = (tgt : Int))
    (kt : x ≤ 0 → gx_Wc E nL tgt lv st u) (kf : ¬ x ≤ 0 → gx_Wc E nL (pc + 3) lv st u) : gx_Wc E nL pc lv (.int x :: st) u := fun H locs ls hl hw hs => lv_if_le X.1 X.2.1 hdg ht (fun q => kt q H locs ls hl hw hs) (fun q => kf q H locs ls hl hw hs)
theorem gx_icmp_le (X : gx_X E cc nL own ret) {x y : Int32} {off : Int} {tgt : Nat} (hdg : decode cc pc = .ok (.if_icmp .le off, 3)) (ht : (pc : Int) + off = (tgt : Int))
    (kt : x ≤ y → gx_Wc E nL tgt lv st u) (kf : ¬ x ≤ y → gx_Wc E nL (pc + 3) lv st u) : gx_Wc E nL pc lv (.int y :: .int x :: st) u := fun H locs ls hl hw hs => lv_icmp_le X.1 X.2.1 hdg ht (fun q => kt q H locs ls hl hw hs) (fun q => kf q H locs ls hl hw hs)
end GX
theorem gx_nf_eq {ci N : Nat} {C : String} {T : u_T} (h : classes[ci]? = some (C, T, N)) : gx_nf ci = N := by
  unfold gx_nf
  rw [h]
theorem gx_at.kept {Z : gx_Z} {u u' : gx_S} {i : Nat} {H H' : Heap} (h : gx_at Z u i H) (hq : H'[Z.2.1 i]? = H[Z.2.1 i]?) (hf : ∀ ci k, gx_fv Z u' i ci k = gx_fv Z u i ci k) (ha : gx_a u' i = gx_a u i) : gx_at Z u' i H' := by
  unfold gx_at at h ⊢
  cases hkd : gx_kd i with
  | inl q =>
    simp only [hkd] at h ⊢
    obtain ⟨h1, h2, h3⟩ := h
    refine ⟨fun j hj => by rw [ha]; exact h1 j hj, fun hi => by rw [hq, ha]; exact h2 hi, fun hi => ?_⟩
    obtain ⟨cell, g1, g2⟩ := h3 hi
    exact ⟨cell, by rw [hq]; exact g1, by rw [ha]; exact g2⟩
  | inr ci =>
    simp only [hkd] at h ⊢
    exact (h.kept hq).to (fun k _ => (hf ci k).symm)
theorem gx_at.ro {Z : gx_Z} {u : gx_S} {i : Nat} {H : Heap} {q : Nat × FieldType} (h : gx_at Z u i H) (hk : gx_kd i = .inl q) : gx_ro Z u i q.1 H := by
  unfold gx_at at h
  simp only [hk] at h
  obtain ⟨h1, h2, h3⟩ := h
  by_cases hi : i < gx_Nw
  · refine ⟨_, h2 hi, rfl, fun h => (by cases h), fun k h => (by cases h), ?_, fun j hj => ?_⟩
    · have e := arrV_size (Z.2.2 i) q.1 (fun j => Value.int (gx_a u i j))
      exact ⟨Nat.le_of_eq e.symm, by show (arrV _ _ _).slots.size.toInt32 = _; rw [e]⟩
    · exact arrV_read _ _ hj
  · exact h3 hi
theorem gx_at.ex {Z : gx_Z} {u : gx_S} {i : Nat} {H : Heap} {q : Nat × FieldType} (h : gx_at Z u i H) (hk : gx_kd i = .inl q) (hi : i < gx_Nw) : (∀ j, j < q.1 → fits q.2 (.int (gx_a u i j)) = true) ∧ H[Z.2.1 i]? = some (vp_cell (Z.2.2 i) (q.1, .inl (gx_a u i))) := by
  unfold gx_at at h
  simp only [hk] at h
  exact ⟨h.1, h.2.1 hi⟩
theorem gx_at.fit {Z : gx_Z} {u : gx_S} {i : Nat} {H : Heap} {q : Nat × FieldType} (h : gx_at Z u i H) (hk : gx_kd i = .inl q) : ∀ j, j < q.1 → fits q.2 (.int (gx_a u i j)) = true := by
  unfold gx_at at h
  simp only [hk] at h
  exact h.1
theorem gx_at.mk {Z : gx_Z} {u : gx_S} {i : Nat} {H : Heap} {q : Nat × FieldType} (hk : gx_kd i = .inl q) (hi : i < gx_Nw) (h1 : ∀ j, j < q.1 → fits q.2 (.int (gx_a u i j)) = true) (h2 : H[Z.2.1 i]? = some (vp_cell (Z.2.2 i) (q.1, .inl (gx_a u i)))) : gx_at Z u i H := by
  unfold gx_at
  simp only [hk]
  exact ⟨h1, fun _ => h2, fun h => absurd hi h⟩
theorem gx_fv_pa (Z : gx_Z) (u : gx_S) (a : Nat) (f : Nat → Int32) (o ci k : Nat) : gx_fv Z (gx_pa u a f) o ci k = gx_fv Z u o ci k := rfl
/-- one array's contents are new: the rest stays -/
theorem gx_W.pa {Z : gx_Z} {u : gx_S} {H H' : Heap} {a : Nat} {f : Nat → Int32} {q : Nat × FieldType} (hinj : ∀ i j, i < gx_N → j < gx_N → Z.2.1 i = Z.2.1 j → i = j) (hw : gx_W Z u H) (hk : gx_kd a = .inl q) (hi : a < gx_Nw) (oq : ∀ x, x ≠ Z.2.1 a → H'[x]? = H[x]?) (h1 : ∀ j, j < q.1 → fits q.2 (.int (f j)) = true) (h2 : H'[Z.2.1 a]? = some (vp_cell (Z.2.2 a) (q.1, .inl f))) : gx_W Z (gx_pa u a f) H' := by
  intro i hiN
  by_cases e : i = a
  · subst e
    refine gx_at.mk hk hi (fun j hj => ?_) ?_
    · rw [gx_a_pa, if_pos rfl]; exact h1 j hj
    · rw [gx_a_pa, if_pos rfl]; exact h2
  · refine (hw i hiN).kept (oq _ (fun h => e (hinj i a hiN (Nat.lt_of_lt_of_le hi gx_NwN) h))) (fun ci k => gx_fv_pa Z u a f i ci k) ?_
    rw [gx_a_pa, if_neg e]
section GY
variable {E : gx_E} {cc : ByteArray} {nL : Nat} {own : String} {ret : Option FieldType} {pc : Nat} {lv : List (Nat × Value)} {st : List Value} {u : gx_S}
theorem gx_get (X : gx_X E cc nL own ret) {o ci idx N : Nat} {C : String} {T : u_T} (hk : gx_isO o ci) (hc : classes[ci]? = some (C, T, N)) (hin : ∀ w ∈ u_ws C T N, w ∈ gx_TB) (k : Nat) (hkN : k < N) (hlink : Cond.fieldLink own idx (T k).1 (T k).2.1 (T k).2.2.1 ∈ gx_TB) {v : Value} (hv : gx_fv (ex_Z E) u o ci k = v) (hdg : decode cc pc = .ok (.getfield idx, 3))
    (kk : gx_Wc E nL (pc + 3) lv (v :: st) u) : gx_Wc E nL pc lv (.ref (ex_ad E o) :: st) u := by
  intro H locs ls hl hw hs
  have h1 := hw o (Nat.lt_of_lt_of_le hk.1 gx_NwN)
  unfold gx_at at h1
  simp only [hk.2] at h1
  obtain ⟨cell, q1, q2, q3, q4⟩ := h1
  obtain ⟨hS, hfc, kC, hkC, hkind⟩ := X.2.2.2.2.2.1.1 ci _ hc
  obtain ⟨cf, kf, fi, f, hi, hsl⟩ := hS k hkN
  refine W.getf X.1 X.2.1 X.2.2.2.1 (X.2.2.2.2.1 _ hlink) hi (u_facts hfc hkC (u_lays X.2.2.2.2.1 hin hkN) hi).1 q1 (by rw [q3]; exact fun h => by cases h) (v := v) ?_ rfl rfl hdg (kk H locs ls hl hw hs)
  rw [hsl, q4 k (by rw [gx_nf_eq hc]; exact hkN), hv]
theorem gx_putG (X : gx_X E cc nL own ret) {o ci idx N : Nat} {C : String} {T : u_T} (hk : gx_isO o ci) (hc : classes[ci]? = some (C, T, N)) (hin : ∀ w ∈ u_ws C T N, w ∈ gx_TB) (hty : ∀ k, k < N → parseFieldDescriptor (T k).2.2.1 = some (gx_ty ci k)) (hnm : ∀ a, a < N → ∀ b, b < N → a ≠ b → (T a).2.1 ≠ (T b).2.1) (k : Nat) (hkN : k < N) (hlink : Cond.fieldLink own idx (T k).1 (T k).2.1 (T k).2.2.1 ∈ gx_TB) (hfin : (T k).2.2.2 = false) {v : Value} (hn : narrow (gx_ty ci k) v = v) (hfit : fits (gx_ty ci k) v = true) {u' : gx_S} (hv : gx_fv (ex_Z E) u' o ci k = v) (ho : ∀ o' ci' k', ¬ (o' = o ∧ k' = k) → gx_fv (ex_Z E) u' o' ci' k' = gx_fv (ex_Z E) u o' ci' k') (ha : ∀ o', gx_a u' o' = gx_a u o') (hdg : decode cc pc = .ok (.putfield idx, 3))
    (kk : gx_Wc E nL (pc + 3) lv st u') : gx_Wc E nL pc lv (v :: .ref (ex_ad E o) :: st) u := by
  intro H locs ls hl hw hs
  have hoN := Nat.lt_of_lt_of_le hk.1 gx_NwN
  have hnf := gx_nf_eq hc
  have h1 := hw o hoN
  unfold gx_at at h1
  simp only [hk.2, hnf] at h1
  obtain ⟨cell, q1, q2, q3, q4⟩ := h1
  have hap := va_apart (own := own) (tys := []) (D := (ex_Z E).1) (cl := classes) X.2.2.2.2.1 hin (gx_ty ci) hty hnm ⟨X.2.2.2.2.2.1.1, fun k q h => by simp at h⟩ hc
  obtain ⟨hS, hfc, kC, hkC, hkind⟩ := X.2.2.2.2.2.1.1 ci _ hc
  obtain ⟨cf, kf, fi, f, hi, hsl⟩ := hS k hkN
  have hlay := X.2.2.2.2.1 _ (hin _ (u_in_lay hkN))
  unfold u_lay at hlay
  rw [if_neg (by rw [hfin]; decide)] at hlay
  have hst := (u_facts hfc hkC (u_lays X.2.2.2.2.1 hin hkN) hi).1
  have h6 := u_store hfc hkC hkind hlay hi (hty k hkN) hn hfit
  refine W.putK X.1 X.2.1 (f := f) ⟨X.2.2.2.1, X.2.2.2.2.1 _ hlink, ⟨_, _, _, hi⟩, hst⟩ (by rw [q2]; exact h6) q1 q3 (by rw [hsl]; exact k2_hasslot (q4 k hkN)) rfl rfl hdg fun H' e1 e2 e3 => ?_
  rw [hsl] at e1 ⊢
  refine kk H' _ ls hl (fun i hi' => ?_) (hs.put e2 e3 ⟨o, hk.1, rfl⟩)
  by_cases hio : i = o
  · subst hio
    unfold gx_at
    simp only [hk.2, hnf]
    refine t_OB.to (V := updV (gx_fv (ex_Z E) u i ci) k v) ⟨_, e1, q2, q3, t_set q4 hap hkN v⟩ (fun j _ => ?_)
    by_cases hj : j = k
    · subst hj; simp [updV, hv]
    · simp [updV, hj]; exact (ho i ci j (fun h => hj h.2)).symm
  · exact (hw i hi').kept (e3 _ (fun h => hio (X.2.2.2.2.2.1.2.2.1 i o hi' hoN h))) (fun ci' k' => ho i ci' k' (fun h => hio h.1)) (ha i)
theorem gx_fv_pi {Z : gx_Z} {u : gx_S} {o k : Nat} {x : Int32} (o' ci' k' : Nat) (h : ¬ (o' = o ∧ k' = k)) : gx_fv Z (gx_pi u o k x) o' ci' k' = gx_fv Z u o' ci' k' := by
  unfold gx_fv
  rw [gx_i_pi, if_neg h, gx_l_pi, gx_r_pi]
theorem gx_fv_pl {Z : gx_Z} {u : gx_S} {o k : Nat} {x : Int64} (o' ci' k' : Nat) (h : ¬ (o' = o ∧ k' = k)) : gx_fv Z (gx_pl u o k x) o' ci' k' = gx_fv Z u o' ci' k' := by
  unfold gx_fv
  rw [gx_l_pl, if_neg h, gx_i_pl, gx_r_pl]
theorem gx_fv_pr {Z : gx_Z} {u : gx_S} {o k : Nat} {x : Nat} (o' ci' k' : Nat) (h : ¬ (o' = o ∧ k' = k)) : gx_fv Z (gx_pr u o k x) o' ci' k' = gx_fv Z u o' ci' k' := by
  unfold gx_fv
  rw [gx_r_pr, if_neg h, gx_i_pr, gx_l_pr]
theorem gx_put (X : gx_X E cc nL own ret) {o ci idx N : Nat} {C : String} {T : u_T} (hk : gx_isO o ci) (hc : classes[ci]? = some (C, T, N)) (hin : ∀ w ∈ u_ws C T N, w ∈ gx_TB) (hty : ∀ k, k < N → parseFieldDescriptor (T k).2.2.1 = some (gx_ty ci k)) (hnm : ∀ a, a < N → ∀ b, b < N → a ≠ b → (T a).2.1 ≠ (T b).2.1) (k : Nat) (hkN : k < N) (hlink : Cond.fieldLink own idx (T k).1 (T k).2.1 (T k).2.2.1 ∈ gx_TB) (hfin : (T k).2.2.2 = false) {x : Int32} (hn : narrow (gx_ty ci k) (.int x) = .int x) (hfit : fits (gx_ty ci k) (.int x) = true) (hv : ∀ z : gx_S, gx_fv (ex_Z E) z o ci k = .int (gx_i z o k)) (hdg : decode cc pc = .ok (.putfield idx, 3))
    (kk : gx_Wc E nL (pc + 3) lv st (gx_pi u o k x)) : gx_Wc E nL pc lv (.int x :: .ref (ex_ad E o) :: st) u :=
  gx_putG X hk hc hin hty hnm k hkN hlink hfin hn hfit (by rw [hv, gx_i_pi, if_pos ⟨rfl, rfl⟩]) gx_fv_pi (fun _ => rfl) hdg kk
theorem gx_putl (X : gx_X E cc nL own ret) {o ci idx N : Nat} {C : String} {T : u_T} (hk : gx_isO o ci) (hc : classes[ci]? = some (C, T, N)) (hin : ∀ w ∈ u_ws C T N, w ∈ gx_TB) (hty : ∀ k, k < N → parseFieldDescriptor (T k).2.2.1 = some (gx_ty ci k)) (hnm : ∀ a, a < N → ∀ b, b < N → a ≠ b → (T a).2.1 ≠ (T b).2.1) (k : Nat) (hkN : k < N) (hlink : Cond.fieldLink own idx (T k).1 (T k).2.1 (T k).2.2.1 ∈ gx_TB) (hfin : (T k).2.2.2 = false) {x : Int64} (hn : narrow (gx_ty ci k) (.long x) = .long x) (hfit : fits (gx_ty ci k) (.long x) = true) (hv : ∀ z : gx_S, gx_fv (ex_Z E) z o ci k = .long (gx_l z o k)) (hdg : decode cc pc = .ok (.putfield idx, 3))
    (kk : gx_Wc E nL (pc + 3) lv st (gx_pl u o k x)) : gx_Wc E nL pc lv (.long x :: .ref (ex_ad E o) :: st) u :=
  gx_putG X hk hc hin hty hnm k hkN hlink hfin hn hfit (by rw [hv, gx_l_pl, if_pos ⟨rfl, rfl⟩]) gx_fv_pl (fun _ => rfl) hdg kk
theorem gx_putr (X : gx_X E cc nL own ret) {o ci idx N : Nat} {C : String} {T : u_T} (hk : gx_isO o ci) (hc : classes[ci]? = some (C, T, N)) (hin : ∀ w ∈ u_ws C T N, w ∈ gx_TB) (hty : ∀ k, k < N → parseFieldDescriptor (T k).2.2.1 = some (gx_ty ci k)) (hnm : ∀ a, a < N → ∀ b, b < N → a ≠ b → (T a).2.1 ≠ (T b).2.1) (k : Nat) (hkN : k < N) (hlink : Cond.fieldLink own idx (T k).1 (T k).2.1 (T k).2.2.1 ∈ gx_TB) (hfin : (T k).2.2.2 = false) {x : Nat} (hn : narrow (gx_ty ci k) (.ref (ex_ad E x)) = .ref (ex_ad E x)) (hfit : fits (gx_ty ci k) (.ref (ex_ad E x)) = true) (hv : ∀ z : gx_S, gx_fv (ex_Z E) z o ci k = .ref (ex_ad E (gx_r z o k))) (hdg : decode cc pc = .ok (.putfield idx, 3))
    (kk : gx_Wc E nL (pc + 3) lv st (gx_pr u o k x)) : gx_Wc E nL pc lv (.ref (ex_ad E x) :: .ref (ex_ad E o) :: st) u :=
  gx_putG X hk hc hin hty hnm k hkN hlink hfin hn hfit (by rw [hv, gx_r_pr, if_pos ⟨rfl, rfl⟩]) gx_fv_pr (fun _ => rfl) hdg kk
theorem gx_iald (X : gx_X E cc nL own ret) {a : Nat} {i : Int32} (ha : gx_isR a .int) (hin : vp_in i (gx_len a)) (hdg : decode cc pc = .ok (.iaload, 1))
    (kk : gx_Wc E nL (pc + 1) lv (.int (gx_a u a i.toNatClampNeg) :: st) u) : gx_Wc E nL pc lv (.int i :: .ref (ex_ad E a) :: st) u := by
  intro H locs ls hl hw hs
  obtain ⟨cell, h1, h2, h3, h4, h5, h6⟩ := (hw a ha.1).ro ha.2
  have hlt : i.toNatClampNeg < gx_len a := Nat.not_le.mp fun q => hin (Or.inr q)
  exact W.iald (v := .int (gx_a u a i.toNatClampNeg)) X.1 X.2.1 h1 ⟨h4, by rw [h2]; exact X.2.2.2.2.2.1.2.1 a _ ha.1 ha.2⟩ h3 (fun z => hin (z.imp id (fun y => Nat.le_trans h5.1 y))) (h6 _ hlt) rfl rfl hdg (kk H locs ls hl hw hs)
theorem gx_bald (X : gx_X E cc nL own ret) {a : Nat} {i : Int32} (ha : gx_isR a .byte) (hin : vp_in i (gx_len a)) (hdg : decode cc pc = .ok (.baload, 1))
    (kk : gx_Wc E nL (pc + 1) lv (.int (gx_a u a i.toNatClampNeg) :: st) u) : gx_Wc E nL pc lv (.int i :: .ref (ex_ad E a) :: st) u := by
  intro H locs ls hl hw hs
  obtain ⟨cell, h1, h2, h3, h4, h5, h6⟩ := (hw a ha.1).ro ha.2
  have hlt : i.toNatClampNeg < gx_len a := Nat.not_le.mp fun q => hin (Or.inr q)
  exact W.bald (v := .int (gx_a u a i.toNatClampNeg)) X.1 X.2.1 h1 ⟨h4, by rw [h2]; exact X.2.2.2.2.2.1.2.1 a _ ha.1 ha.2⟩ h3 (fun z => hin (z.imp id (fun y => Nat.le_trans h5.1 y))) (h6 _ hlt) rfl rfl hdg (kk H locs ls hl hw hs)
theorem gx_alen (X : gx_X E cc nL own ret) {a : Nat} {ty : FieldType} (ha : gx_isR a ty) (hdg : decode cc pc = .ok (.arraylength, 1))
    (kk : gx_Wc E nL (pc + 1) lv (.int (nI (gx_len a)) :: st) u) : gx_Wc E nL pc lv (.ref (ex_ad E a) :: st) u := by
  intro H locs ls hl hw hs
  obtain ⟨cell, h1, h2, h3, h4, h5, h6⟩ := (hw a ha.1).ro ha.2
  exact W.alen (n := nI (gx_len a)) X.1 X.2.1 h1 ⟨h4, by rw [h2]; exact X.2.2.2.2.2.1.2.1 a _ ha.1 ha.2⟩ h5.2 rfl rfl hdg (kk H locs ls hl hw hs)
theorem gx_iast (X : gx_X E cc nL own ret) {a : Nat} {i x : Int32} (ha : gx_isA a .int) (hin : vp_in i (gx_len a)) (hdg : decode cc pc = .ok (.iastore, 1))
    (kk : gx_Wc E nL (pc + 1) lv st (gx_pa u a (upd (gx_a u a) i.toNatClampNeg x))) : gx_Wc E nL pc lv (.int x :: .int i :: .ref (ex_ad E a) :: st) u := by
  intro H locs ls hl hw hs
  obtain ⟨hf, hc⟩ := (hw a ha.r.1).ex ha.2 ha.1
  refine W.iast X.1 X.2.1 hc ⟨fun k h => (by cases h), X.2.2.2.2.2.1.2.1 a _ ha.r.1 ha.2⟩ (fun q => by cases q) (by show ¬ (i < 0 ∨ (arrV _ _ _).slots.size ≤ _); rw [arrV_size]; exact hin) rfl rfl hdg fun H1 e z oq => ?_
  refine kk H1 _ ls hl (gx_W.pa X.2.2.2.2.2.1.2.2.1 hw ha.2 ha.1 oq (fun j hj => rfl) ?_) (hs.put z oq ⟨a, ha.1, rfl⟩)
  rw [e, vp_cell_i, vp_cell_i, arrV_store]
  congr 2
  funext q
  by_cases hq : q = i.toNatClampNeg
  · subst hq
    simp [updV, upd]
  · simp [updV, upd, hq]
theorem gx_bast (X : gx_X E cc nL own ret) {a : Nat} {i x : Int32} (ha : gx_isA a .byte) (hin : vp_in i (gx_len a)) (hdg : decode cc pc = .ok (.bastore, 1))
    (kk : gx_Wc E nL (pc + 1) lv st (gx_pa u a (upd (gx_a u a) i.toNatClampNeg x.toInt8.toInt32))) : gx_Wc E nL pc lv (.int x :: .int i :: .ref (ex_ad E a) :: st) u := by
  intro H locs ls hl hw hs
  obtain ⟨hf, hc⟩ := (hw a ha.r.1).ex ha.2 ha.1
  refine W.bast X.1 X.2.1 hc ⟨fun k h => (by cases h), X.2.2.2.2.2.1.2.1 a _ ha.r.1 ha.2⟩ (fun q => by cases q) (by show ¬ (i < 0 ∨ (arrV _ _ _).slots.size ≤ _); rw [arrV_size]; exact hin) rfl rfl hdg fun H1 e z oq => ?_
  refine kk H1 _ ls hl (gx_W.pa X.2.2.2.2.2.1.2.2.1 hw ha.2 ha.1 oq (fun j hj => ?_) ?_) (hs.put z oq ⟨a, ha.1, rfl⟩)
  · unfold upd
    split
    · exact pk_fb x
    · exact hf j hj
  · rw [e, vp_cell_i, vp_cell_i, arrV_store]
    congr 2
    funext q
    by_cases hq : q = i.toNatClampNeg
    · subst hq
      simp [updV, upd, narrow]
    · simp [updV, upd, hq]
theorem gx_gets (X : gx_X E cc nL own ret) {C n d : String} {a idx : Nat} (hq : (C, n, d, a) ∈ gx_stat) (hlink : Cond.fieldLink own idx C n d ∈ gx_TB) (hdg : decode cc pc = .ok (.getstatic idx, 3))
    (kk : gx_Wc E nL (pc + 3) lv (.ref (ex_ad E a) :: st) u) : gx_Wc E nL pc lv st u := fun H locs ls hl hw hs =>
  va_gets X.1 X.2.1 (X.2.2.2.2.2.1.2.2.2.2 _ hq) hs X.2.2.2.1 (X.2.2.2.2.1 _ hlink) (fun _ h => h) hdg (kk H locs ls hl hw hs)
theorem gx_iret (X : gx_X E cc nL own (some .int)) {post : Int32 → gx_S → Prop} (hQ : ex_Q E = va_Qi post (gx_B (ex_Z E)) (gx_A (ex_Z E))) {v : Int32} (hp : post v u) (hdg : decode cc pc = .ok (.ireturn, 1)) : gx_Wc E nL pc lv [.int v] u := fun H locs ls hl hw hs =>
  W.iret X.1 X.2.1 X.2.2.2.2.2.2.1 (fun t ht _ => by rw [hQ]; exact ⟨⟨v, u, rfl, hp, by unfold gx_B; rw [ht]; exact hw⟩, hs.F ht⟩) hs.2.2 hdg X.2.2.2.2.2.2.2
theorem gx_zret (X : gx_X E cc nL own (some .boolean)) {post : Int32 → gx_S → Prop} (hQ : ex_Q E = va_Qi post (gx_B (ex_Z E)) (gx_A (ex_Z E))) {v : Int32} (hn : narrow .boolean (.int v) = .int v) (hp : post v u) (hdg : decode cc pc = .ok (.ireturn, 1)) : gx_Wc E nL pc lv [.int v] u := fun H locs ls hl hw hs =>
  W.zret X.1 X.2.1 X.2.2.2.2.2.2.1 hn (fun t ht _ => by rw [hQ]; exact ⟨⟨v, u, rfl, hp, by unfold gx_B; rw [ht]; exact hw⟩, hs.F ht⟩) hs.2.2 hdg X.2.2.2.2.2.2.2
theorem gx_lret (X : gx_X E cc nL own (some .long)) {post : Int64 → gx_S → Prop} (hQ : ex_Q E = va_Ql post (gx_B (ex_Z E)) (gx_A (ex_Z E))) {v : Int64} (hp : post v u) (hdg : decode cc pc = .ok (.lreturn, 1)) : gx_Wc E nL pc lv [.long v] u := fun H locs ls hl hw hs =>
  W.lret X.1 X.2.1 X.2.2.2.2.2.2.1 (fun t ht _ => by rw [hQ]; exact ⟨⟨v, u, rfl, hp, by unfold gx_B; rw [ht]; exact hw⟩, hs.F ht⟩) hs.2.2 hdg X.2.2.2.2.2.2.2
theorem gx_vret (X : gx_X E cc nL own none) {post : gx_S → Prop} (hQ : ex_Q E = va_Qv post (gx_B (ex_Z E)) (gx_A (ex_Z E))) (hp : post u) (hdg : decode cc pc = .ok (.return_, 1)) : gx_Wc E nL pc lv [] u := fun H locs ls hl hw hs =>
  W.vret X.1 X.2.1 X.2.2.2.2.2.2.1 (fun t ht _ => by rw [hQ]; exact ⟨⟨u, rfl, hp, by unfold gx_B; rw [ht]; exact hw⟩, hs.F ht⟩) hs.2.2 hdg X.2.2.2.2.2.2.2
end GY
section GC
variable {E : gx_E} {cc : ByteArray} {nL : Nat} {own : String} {ret : Option FieldType} {pc : Nat} {lv : List (Nat × Value)} {st : List Value} {u : gx_S}
theorem gx_nn (z : Int32) (hz : ¬ z < 0) : z.toInt = (z.toNatClampNeg : Int) := by
  have hz0 : (0 : Int) ≤ z.toInt := by
    have := Int32.not_lt.mp hz
    simpa using Int32.le_iff_toInt_le.mp this
  show z.toInt = ((z.toInt.toNat : Nat) : Int)
  omega
theorem gx_copy (X : gx_X E cc nL own ret) (hd : 1 ≤ ex_d E) {a b idx : Nat} {ty : FieldType} (ha : gx_isR a ty) (hb : gx_isA b ty) (hprim : refKind ty = false) {sp dp n : Int32} (h1 : ¬ sp < 0) (h2 : ¬ dp < 0) (h3 : ¬ n < 0) (h4 : sp.toNatClampNeg + n.toNatClampNeg ≤ gx_len a) (h5 : dp.toNatClampNeg + n.toNatClampNeg ≤ gx_len b)
    (m1 : Cond.methodLink own idx arraycopyName ∈ gx_TB) (m2 : Cond.native arraycopyName ∈ gx_TB) (m3 : Cond.static arraycopyName ∈ gx_TB) (m4 : Cond.initialized "java/lang/System" ∈ gx_TB) (hloc : (st.map fun v => v.category).sum + (nativeFrameWords "java/lang/System" "arraycopy" 5 + 11) ≤ 40) (hdg : decode cc pc = .ok (.invokestatic idx, 3))
    (kk : gx_Wc E nL (pc + 3) lv st (gx_pa u b (va_cpy (gx_a u a) (gx_a u b) sp.toNatClampNeg dp.toNatClampNeg n.toNatClampNeg))) : gx_Wc E nL pc lv (.int n :: .int dp :: .ref (ex_ad E b) :: .int sp :: .ref (ex_ad E a) :: st) u := by
  intro H locs ls hl hw hs T hT XX
  obtain ⟨scr, hs1, hs2, hs3, hs4, hs5, hs6⟩ := (hw a ha.1).ro ha.2
  have hfa := (hw a ha.1).fit ha.2
  obtain ⟨hfb, hc1⟩ := (hw b hb.r.1).ex hb.2 hb.1
  obtain ⟨k0, hk0, cm0, hkk0⟩ := X.2.2.2.2.2.1.2.1 a _ ha.1 ha.2
  obtain ⟨k1, hk1, cm1, hkk1⟩ := X.2.2.2.2.2.1.2.1 b _ hb.r.1 hb.2
  have hts := X.2.2.2.2.1
  dsimp only at hs5 hs6 hfa hfb hc1
  obtain ⟨vm', X', step⟩ := XX.arraycopy X.1 X.2.2.2.1 (hts _ m1) (hts _ m2) (hts _ m3) (hts _ m4) (src := ex_ad E a) (dst := ex_ad E b) (cs := scr) (cd := vp_cell ((ex_Z E).2.2 b) (gx_len b, .inl (gx_a u b))) (srcPos := sp) (destPos := dp) (n := n) (by rw [hT]; exact hs1) (by rw [hT]; exact hc1)
    hs4 (fun _ h => by cases h) hs3 (fun h => by cases h) (by rw [hs2]; exact hk0) hk1 hkk0 hkk1 (by simp [hprim]) h1 h2 h3
    (by have h51 := hs5.1; rw [gx_nn sp h1, gx_nn n h3]; omega)
    (by rw [gx_nn dp h2, gx_nn n h3]; show ¬ _ > ((arrV _ _ (fun j => .int (gx_a u b j))).slots.size : Int); rw [arrV_size]; omega)
    (fun vm₁ _ i hi => by
      have e : scr.slots.getD (sp.toNatClampNeg + i) .null = .int (gx_a u a (sp.toNatClampNeg + i)) := by
        rw [Array.getD_eq_getD_getElem?, hs6 _ (by omega)]
        rfl
      refine ⟨?_, ?_⟩
      · rw [e]
        exact hfa _ (by omega)
      · rw [e]
        exact trivial)
    (g := F0 (ex_m E) pc ls (.int n :: .int dp :: .ref (ex_ad E b) :: .int sp :: .ref (ex_ad E a) :: st)) rfl (by rw [X.2.2.1]; exact hl.1) (rest := st) rfl (by rw [X.2.1]; exact hdg) hd (by show 2 * 0 + _ + _ ≤ 40 * ex_d E; omega)
  have e1 : copied scr (vp_cell ((ex_Z E).2.2 b) (gx_len b, .inl (gx_a u b))) sp dp n = vp_cell ((ex_Z E).2.2 b) (gx_len b, .inl (va_cpy (gx_a u a) (gx_a u b) sp.toNatClampNeg dp.toNatClampNeg n.toNatClampNeg)) := va_copiedX (fun z => .int z) scr ((ex_Z E).2.2 b) (gx_a u a) (gx_a u b) hs6 h4
  rw [e1] at X' step
  have hlt : ex_ad E b < H.size := (Array.getElem?_eq_some_iff.mp hc1).1
  have hheap : ((T.setVm vm').setCell (ex_ad E b) (vp_cell ((ex_Z E).2.2 b) (gx_len b, .inl (va_cpy (gx_a u a) (gx_a u b) sp.toNatClampNeg dp.toNatClampNeg n.toNatClampNeg)))).heap = H.setIfInBounds (ex_ad E b) (vp_cell ((ex_Z E).2.2 b) (gx_len b, .inl (va_cpy (gx_a u a) (gx_a u b) sp.toNatClampNeg dp.toNatClampNeg n.toNatClampNeg))) := by rw [← hT]; rfl
  have oq : ∀ q : Nat, q ≠ ex_ad E b → (H.setIfInBounds (ex_ad E b) (vp_cell ((ex_Z E).2.2 b) (gx_len b, .inl (va_cpy (gx_a u a) (gx_a u b) sp.toNatClampNeg dp.toNatClampNeg n.toNatClampNeg))))[q]? = H[q]? := fun q hq => by simp [Array.getElem?_setIfInBounds, Ne.symm hq]
  obtain ⟨t, a1, b1⟩ := kk _ _ ls hl (gx_W.pa X.2.2.2.2.2.1.2.2.1 hw hb.2 hb.1 oq (fun j hj => by
      unfold va_cpy
      split
      · exact hfa _ (by omega)
      · exact hfb j hj) (show (H.setIfInBounds (ex_ad E b) _)[ex_ad E b]? = some _ by simp [Array.getElem?_setIfInBounds, hlt])) ⟨by simp; exact hs.1, fun q g1 g2 => by
      rw [oq q (fun e => g2 ⟨b, hb.1, e.symm⟩)]
      exact hs.2.1 q g1 g2, fun q hq => by
      rcases List.mem_append.mp hq with h | h
      · exact hs.2.2 q h
      · obtain ⟨z, -, hz⟩ := List.mem_map.mp h
        rw [← hz]
        exact ⟨b, hb.1, rfl⟩⟩ _ hheap X'
  exact ⟨t, step t a1, b1⟩
abbrev gx_Run (E : gx_E) (nL pc : Nat) (lv : List (Nat × Value)) (st0 rest : List Value) (u : gx_S) (Qa : State → Outcome → State → Prop) : Prop :=
  ∀ (H : Heap) (locs : List Loc) (ls : Array Slot), lv_has ls nL lv → gx_W (ex_Z E) u H → va_S (gx_A (ex_Z E)) (ex_s E).heap H locs →
    va_Run (ex_p E) (ex_l E) (ex_e E) (gx_rm (ex_d E)) (ex_s E) (ex_m E) (ex_args E) (ex_below E) (ex_meth E) (ex_c E) H locs 0 0 0 0 (F0 (ex_m E) pc ls st0) rest Qa (gx_A (ex_Z E))
theorem gx_blind {Z : gx_Z} {u : gx_S} {av : List Value} : FrameBlind (gx_Pre Z u av) := fun _ _ _ _ q => ⟨q.1, q.2.1.calling, q.2.2⟩
theorem gx_recv (X : gx_X E cc nL own ret) {o ci N : Nat} {C : String} {T : u_T} (hk : gx_isO o ci) (hc : classes[ci]? = some (C, T, N)) {H : Heap} (hw : gx_W (ex_Z E) u H) : ∃ cell : Cell, H[ex_ad E o]? = some cell ∧ cell.vm.isStatics = false ∧ (ex_s E).vm.findClass C = some cell.cls := by
  have h1 := hw o (Nat.lt_of_lt_of_le hk.1 gx_NwN)
  unfold gx_at at h1
  simp only [hk.2] at h1
  obtain ⟨cell, q1, q2, q3, q4⟩ := h1
  exact ⟨cell, q1, by rw [q3]; rfl, by rw [q2]; exact (X.2.2.2.2.2.1.1 ci _ hc).2.1⟩
variable {y : MethodName} {bytes : ByteArray} {maxL d' idx n o ci N : Nat} {T : u_T} {ry : Option FieldType} {As rest st0 : List Value} {Qc : Array Value → State → Outcome → State → Prop}
theorem gx_rV (X : gx_X E cc nL own ret) (hM : Met (ex_l E) y (Cond.code y bytes maxL ry :: gx_TB) (gx_rm d') (gx_Pre (ex_Z E) u (.ref (ex_ad E o) :: As)) Qc 0 0 (gx_A (ex_Z E))) (hd : d' + 1 ≤ ex_d E) (hR2 : 8 + (maxL + 11) + 40 * d' ≤ 40 * ex_d E) (hk : gx_isO o ci) (hc : classes[ci]? = some (y.cls, T, N)) (m1 : Cond.methodLink own idx y ∈ gx_TB) (m2 : Cond.instanceMethod y ∈ gx_TB) (m3 : Cond.selects y.cls y y ∈ gx_TB) (m4 : Cond.initialized y.cls ∈ gx_TB) (m5 : Cond.code y bytes maxL ry ∈ gx_TB)
    (hy : y.cls ≠ "java/lang/invoke/MethodHandle" ∧ y.cls ≠ "java/lang/invoke/VarHandle" ∧ (parseMethodDescriptor y.desc).map (fun d => d.parameters.length) = some n) (hn : As.length = n) (hst : st0 = As.reverse ++ .ref (ex_ad E o) :: rest) (hrest : (rest.map fun v => v.category).sum ≤ 8) (hdg : decode cc pc = .ok (.invokevirtual idx, 3)) : gx_Run E nL pc lv st0 rest u (Qc (Value.ref (ex_ad E o) :: As).toArray) := by
  intro H locs ls hl hw hs
  have hts := X.2.2.2.2.1
  exact va_runV (Ts := gx_TB) (C := y.cls) ⟨X.1, X.2.1, X.2.2.1, X.2.2.2.1, hts⟩ hM ⟨callB_of n hts (gx_goodT m5) rfl rfl rfl (hts _ m4) (hts _ m1) hy ⟨hd, hR2⟩, hts _ m2, hts _ m3⟩ ⟨gx_blind, gx_recv X hk hc hw, fun U hU hW => ⟨rfl, X.2.2.2.2.2.1.moved hW hU hs, by rw [hU]; exact hw⟩⟩ rfl hn hl.1 hst (lv_room hrest) hdg ⟨Nat.le_refl 0, Nat.le_refl 0⟩
theorem gx_rVN {host : String} (X : gx_X E cc nL own ret) (hM : Met (ex_l E) y (Cond.code y bytes maxL ry :: gx_TB) (gx_rm d') (gx_Pre (ex_Z E) u (.ref (ex_ad E o) :: As)) Qc 0 0 (gx_A (ex_Z E))) (hd : d' + 1 ≤ ex_d E) (hR2 : 8 + (maxL + 11) + 40 * d' ≤ 40 * ex_d E) (hk : gx_isO o ci) (hc : classes[ci]? = some (y.cls, T, N)) (m1 : (own, idx, y, host) ∈ gx_nest) (m2 : Cond.instanceMethod y ∈ gx_TB) (m3 : Cond.selects y.cls y y ∈ gx_TB) (m4 : Cond.initialized y.cls ∈ gx_TB) (m5 : Cond.code y bytes maxL ry ∈ gx_TB)
    (hy : y.cls ≠ "java/lang/invoke/MethodHandle" ∧ y.cls ≠ "java/lang/invoke/VarHandle" ∧ (parseMethodDescriptor y.desc).map (fun d => d.parameters.length) = some n) (hn : As.length = n) (hst : st0 = As.reverse ++ .ref (ex_ad E o) :: rest) (hrest : (rest.map fun v => v.category).sum ≤ 8) (hdg : decode cc pc = .ok (.invokevirtual idx, 3)) : gx_Run E nL pc lv st0 rest u (Qc (Value.ref (ex_ad E o) :: As).toArray) := by
  intro H locs ls hl hw hs
  have hts := X.2.2.2.2.1
  exact va_runVN (Ts := gx_TB) (C := y.cls) ⟨X.1, X.2.1, X.2.2.1, X.2.2.2.1, hts⟩ hM ⟨va_cnB n hts (gx_goodT m5) rfl rfl rfl (X.2.2.2.2.2.1.2.2.2.1 _ m1) (hts _ m4) hy ⟨hd, hR2⟩, hts _ m2, hts _ m3⟩ ⟨gx_blind, gx_recv X hk hc hw, fun U hU hW => ⟨rfl, X.2.2.2.2.2.1.moved hW hU hs, by rw [hU]; exact hw⟩⟩ rfl hn hl.1 hst (lv_room hrest) hdg ⟨Nat.le_refl 0, Nat.le_refl 0⟩
theorem gx_rS (X : gx_X E cc nL own ret) (hM : Met (ex_l E) y (Cond.code y bytes maxL ry :: gx_TB) (gx_rm d') (gx_Pre (ex_Z E) u As) Qc 0 0 (gx_A (ex_Z E))) (hd : d' + 1 ≤ ex_d E) (hR2 : 8 + (maxL + 11) + 40 * d' ≤ 40 * ex_d E) (m1 : Cond.methodLink own idx y ∈ gx_TB) (m2 : Cond.static y ∈ gx_TB) (m4 : Cond.initialized y.cls ∈ gx_TB) (m5 : Cond.code y bytes maxL ry ∈ gx_TB)
    (hy : y.cls ≠ "java/lang/invoke/MethodHandle" ∧ y.cls ≠ "java/lang/invoke/VarHandle" ∧ (parseMethodDescriptor y.desc).map (fun d => d.parameters.length) = some n) (hn : As.length = n) (hst : st0 = As.reverse ++ rest) (hrest : (rest.map fun v => v.category).sum ≤ 8) (hdg : decode cc pc = .ok (.invokestatic idx, 3)) : gx_Run E nL pc lv st0 rest u (Qc As.toArray) := by
  intro H locs ls hl hw hs
  have hts := X.2.2.2.2.1
  exact va_runS (Ts := gx_TB) ⟨X.1, X.2.1, X.2.2.1, X.2.2.2.1, hts⟩ hM ⟨callB_of n hts (gx_goodT m5) rfl rfl rfl (hts _ m4) (hts _ m1) hy ⟨hd, hR2⟩, hts _ m2⟩ ⟨gx_blind, fun U hU hW => ⟨rfl, X.2.2.2.2.2.1.moved hW hU hs, by rw [hU]; exact hw⟩⟩ rfl hn hl.1 hst (lv_room hrest) hdg ⟨Nat.le_refl 0, Nat.le_refl 0⟩
theorem gx_rSN {host : String} (X : gx_X E cc nL own ret) (hM : Met (ex_l E) y (Cond.code y bytes maxL ry :: gx_TB) (gx_rm d') (gx_Pre (ex_Z E) u As) Qc 0 0 (gx_A (ex_Z E))) (hd : d' + 1 ≤ ex_d E) (hR2 : 8 + (maxL + 11) + 40 * d' ≤ 40 * ex_d E) (m1 : (own, idx, y, host) ∈ gx_nest) (m2 : Cond.static y ∈ gx_TB) (m4 : Cond.initialized y.cls ∈ gx_TB) (m5 : Cond.code y bytes maxL ry ∈ gx_TB)
    (hy : y.cls ≠ "java/lang/invoke/MethodHandle" ∧ y.cls ≠ "java/lang/invoke/VarHandle" ∧ (parseMethodDescriptor y.desc).map (fun d => d.parameters.length) = some n) (hn : As.length = n) (hst : st0 = As.reverse ++ rest) (hrest : (rest.map fun v => v.category).sum ≤ 8) (hdg : decode cc pc = .ok (.invokestatic idx, 3)) : gx_Run E nL pc lv st0 rest u (Qc As.toArray) := by
  intro H locs ls hl hw hs
  have hts := X.2.2.2.2.1
  exact va_runSN (Ts := gx_TB) ⟨X.1, X.2.1, X.2.2.1, X.2.2.2.1, hts⟩ hM ⟨va_cnB n hts (gx_goodT m5) rfl rfl rfl (X.2.2.2.2.2.1.2.2.2.1 _ m1) (hts _ m4) hy ⟨hd, hR2⟩, hts _ m2, trivial⟩ ⟨gx_blind, fun U hU hW => ⟨rfl, X.2.2.2.2.2.1.moved hW hU hs, by rw [hU]; exact hw⟩⟩ rfl hn hl.1 hst (lv_room hrest) hdg ⟨Nat.le_refl 0, Nat.le_refl 0⟩
theorem gx_ki {post : Int32 → gx_S → Prop} {a : Array Value} (hr : gx_Run E nL pc lv st0 rest u (va_Qi post (gx_B (ex_Z E)) (gx_A (ex_Z E)) a)) (kk : ∀ (r : Int32) (u' : gx_S), post r u' → gx_Wc E nL (pc + 3) lv (.int r :: rest) u') : gx_Wc E nL pc lv st0 u := fun H locs ls hl hw hs =>
  va_calli (hr H locs ls hl hw hs) hs (fun _ _ h => h) (fun _ h => h) (fun r u' t H1 locs1 ht _ hp hB _ _ hS => kk r u' hp H1 locs1 ls hl (by rw [← ht]; exact hB) hS)
theorem gx_kl {post : Int64 → gx_S → Prop} {a : Array Value} (hr : gx_Run E nL pc lv st0 rest u (va_Ql post (gx_B (ex_Z E)) (gx_A (ex_Z E)) a)) (kk : ∀ (r : Int64) (u' : gx_S), post r u' → gx_Wc E nL (pc + 3) lv (.long r :: rest) u') : gx_Wc E nL pc lv st0 u := fun H locs ls hl hw hs =>
  va_calll (hr H locs ls hl hw hs) hs (fun _ _ h => h) (fun _ h => h) (fun r u' t H1 locs1 ht _ hp hB _ _ hS => kk r u' hp H1 locs1 ls hl (by rw [← ht]; exact hB) hS)
theorem gx_kv {post : gx_S → Prop} {a : Array Value} (hr : gx_Run E nL pc lv st0 rest u (va_Qv post (gx_B (ex_Z E)) (gx_A (ex_Z E)) a)) (kk : ∀ (u' : gx_S), post u' → gx_Wc E nL (pc + 3) lv rest u') : gx_Wc E nL pc lv st0 u := fun H locs ls hl hw hs =>
  va_callv (hr H locs ls hl hw hs) hs (fun _ _ h => h) (fun _ h => h) (fun u' t H1 locs1 ht _ hp hB _ _ hS => kk u' hp H1 locs1 ls hl (by rw [← ht]; exact hB) hS)
theorem gx_mmin (X : gx_X E cc nL own ret) (hd : 1 ≤ ex_d E) (m1 : Cond.methodLink own idx Lib.Math.min.name ∈ gx_TB) (m2 : Cond.static Lib.Math.min.name ∈ gx_TB) (m3 : Cond.initialized "java/lang/Math" ∈ gx_TB) (m4 : Cond.code Lib.Math.min.name Lib.Math.min.code 2 (some .int) ∈ gx_TB) (hloc : (st.map fun v => v.category).sum + 13 ≤ 40) {x z : Int32} (hdg : decode cc pc = .ok (.invokestatic idx, 3))
    (kk : gx_Wc E nL (pc + 3) lv (.int (if z < x then z else x) :: st) u) : gx_Wc E nL pc lv (.int z :: .int x :: st) u := fun H locs ls hl hw hs => by
  have hts := X.2.2.2.2.1
  exact va_mmin X.1 X.2.1 (by rw [X.2.2.1]; exact hl.1.symm) X.2.2.2.1 (hts _ m1) (hts _ m2) (hts _ m3) (hts _ m4) hd (by show _ + 13 ≤ 40 * ex_d E; omega) (Nat.zero_le _) (Nat.zero_le _) hdg (kk H locs ls hl hw hs)
theorem gx_mminl (X : gx_X E cc nL own ret) (hd : 1 ≤ ex_d E) (m1 : Cond.methodLink own idx Lib.MathLoose.min_long.x ∈ gx_TB) (m2 : Cond.static Lib.MathLoose.min_long.x ∈ gx_TB) (m3 : Cond.initialized "java/lang/Math" ∈ gx_TB) (m4 : Cond.code Lib.MathLoose.min_long.x Lib.MathLoose.min_long.code 4 (some .long) ∈ gx_TB) (hloc : (st.map fun v => v.category).sum + 15 ≤ 40) {x z : Int64} (hdg : decode cc pc = .ok (.invokestatic idx, 3))
    (kk : gx_Wc E nL (pc + 3) lv (.long (if z < x then z else x) :: st) u) : gx_Wc E nL pc lv (.long z :: .long x :: st) u := fun H locs ls hl hw hs => by
  have hts := X.2.2.2.2.1
  exact va_mmin_long X.1 X.2.1 (by rw [X.2.2.1]; exact hl.1.symm) X.2.2.2.1 (hts _ m1) (hts _ m2) (hts _ m3) (hts _ m4) hd (by show _ + 15 ≤ 40 * ex_d E; omega) (Nat.zero_le _) (Nat.zero_le _) hdg (kk H locs ls hl hw hs)
end GC

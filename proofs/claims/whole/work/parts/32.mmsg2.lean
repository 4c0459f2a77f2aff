theorem isA34 : gx_isA 34 .int := ⟨by decide, rfl⟩
theorem isA35 : gx_isA 35 .int := ⟨by decide, rfl⟩
theorem isA36 : gx_isA 36 .int := ⟨by decide, rfl⟩
theorem isA30 : gx_isA 30 .byte := ⟨by decide, rfl⟩
theorem isA31 : gx_isA 31 .int := ⟨by decide, rfl⟩
theorem isA32 : gx_isA 32 .int := ⟨by decide, rfl⟩
theorem isA33 : gx_isA 33 .int := ⟨by decide, rfl⟩
theorem in21 {a i : Nat} (ha : gx_len a = 21) (h : i < 21) : vp_in (nI i) (gx_len a) := by rw [ha]; exact vp_in_nI h (by omega)
def S_X10_message (u : gx_S) (v0 : Nat) (post : Int32 → gx_S → Prop) : Prop := v0 = 21 ∧ ∃ (t k : Nat) (T O M G : List Nat) (HC KC : Nat → Int32), mS u t T O M k G HC KC ∧ (cnt T ≠ 0 → ∀ v, exM u v → mS v t [] O T (cnt T) G HC KC → post (nI (cnt T)) v) ∧ (cnt T = 0 → ∀ v, exM u v → mS v t [] O M k G HC KC → post (-1) v)
/-- what the three new rows hold when m fields are found and the line at a is next -/
def mn3 (u : gx_S) (T : List Nat) (m a : Nat) : Prop := (∀ j, j < m → gx_a u 34 j = nI (plc T j) ∧ gx_a u 35 j = nI (plc T j + nameLen T (plc T j))) ∧ (∀ j, j + 1 < m → gx_a u 36 j = nI (plc T (j + 1))) ∧ (0 < m → gx_a u 36 (m - 1) = nI a)
/-- the model's scratch alone is new -/
theorem mS_x {u v : gx_S} {t k : Nat} {T O M G : List Nat} {HC KC : Nat → Int32} {A : List Nat} {F : List (Nat × Nat)} (h : mS u t T O M k G HC KC) (hx : exG A F u v) (hA : ∀ a ∈ A, 34 ≤ a ∧ a ≤ 37 ∨ a = 46 ∨ a = 48 ∨ a = 49 ∨ 51 ≤ a ∧ a < 60) (hF : ∀ q ∈ F, q.1 = 22 ∨ q.1 = 27) : mS v t T O M k G HC KC ∧ exM u v := by
  obtain ⟨h0, h1, h2, h3, h4, h5, h6⟩ := h
  have na : ∀ b, (28 ≤ b ∧ b ≤ 33 ∨ 38 ≤ b ∧ b ≤ 45 ∨ b = 47 ∨ b = 50) → b ∉ A := fun b hb e => by have := hA b e; omega
  have nf : ∀ o k, o ≠ 22 → o ≠ 27 → (o, k) ∉ F := fun o k a b e => by
    rcases hF _ e with z | z
    · exact a z
    · exact b z
  exact ⟨⟨h0, exG_mfix hx h1, mt_ex hx (na _ (by omega)) (nf _ _ (by decide) (by decide)) h2, mo_ex hx (na _ (by omega)) (nf _ _ (by decide) (by decide)) h3, mm_ex hx ⟨na _ (by omega), na _ (by omega), na _ (by omega), na _ (by omega)⟩ ⟨nf _ _ (by decide) (by decide), nf _ _ (by decide) (by decide), nf _ _ (by decide) (by decide), nf _ _ (by decide) (by decide)⟩ h4, mg_ex hx (fun a x y => na a (by omega)) (nf _ _ (by omega) (by omega)) h5, mh_ex hx ⟨na _ (by omega), na _ (by omega)⟩ h6⟩, exM_of hx (fun a ha => by have := hA a ha; omega) (fun q hq => by have := hF q hq; omega)⟩
theorem en_X10_message {E : gx_E} (X : gx_X E cX10_message 8 RX10 (some .int)) (hd : 2 ≤ ex_d E) {post : Int32 → gx_S → Prop} (hQ : ex_Q E = va_Qi post (gx_B (ex_Z E)) (gx_A (ex_Z E))) {u0 : gx_S} {t k : Nat} {T O M G : List Nat} {HC KC : Nat → Int32} {v3 v5 : Int32} (hS : mS u0 t [] O M k G HC KC) (hT : rdb T (gx_a u0 28)) (hTl : T.length ≤ 2000)
    (h1 : cnt T ≠ 0 → ∀ v, exM u0 v → mS v t [] O T (cnt T) G HC KC → post (nI (cnt T)) v) (h2 : cnt T = 0 → ∀ v, exM u0 v → mS v t [] O M k G HC KC → post (-1) v) {m a : Nat} {u : gx_S} (hx : exG [34, 35, 36] [] u0 u) (hm : m ≤ 20) (hc : cnt T = m) (hp : 0 < m → plc T m = a) (hn : mn3 u T m a) : J_X10_message_217 E 21 (nI T.length) (nI m) v3 (nI (bdy T m)) v5 u := by
  have s0 := mS_x hS hx (by decide) (by decide)
  refine w_X10_message_217 X hd hQ ⟨fun q => ?_, fun q => ?_⟩
  · have hm0 : m ≠ 0 := fun e => q (by rw [e]; rfl)
    have hf := s0.1.2.1
    refine ⟨isO21, fun u2 e2 => ?_⟩
    have x2 : exG [30, 31, 32, 33] [(21, 11), (21, 12), (21, 13), (21, 14)] u u2 := by rw [e2]; exact exG_pi _ _ (by simp)
    have f2 := exG_mfix x2 hf
    rw [show gx_r u2 21 8 = 34 from f2 21 8 (by decide) (by decide), show gx_r u2 21 5 = 31 from f2 21 5 (by decide) (by decide), nI_clamp (show m < 2 ^ 31 by omega)]
    refine ⟨isA34.r, isA31, by decide, by decide, nI_pos (by omega), by show 0 + m ≤ 21; omega, by show 0 + m ≤ 21; omega, fun u10 e10 => ?_⟩
    have x10 : exG [30, 31, 32, 33] [(21, 11), (21, 12), (21, 13), (21, 14)] u u10 := exG_tr x2 (by rw [e10]; exact exG_pa _ _ (by simp))
    have f10 := exG_mfix x10 hf
    rw [show gx_r u10 21 9 = 35 from f10 21 9 (by decide) (by decide), show gx_r u10 21 6 = 32 from f10 21 6 (by decide) (by decide)]
    refine ⟨isA35.r, isA32, by decide, by decide, nI_pos (by omega), by show 0 + m ≤ 21; omega, by show 0 + m ≤ 21; omega, fun u18 e18 => ?_⟩
    have x18 : exG [30, 31, 32, 33] [(21, 11), (21, 12), (21, 13), (21, 14)] u u18 := exG_tr x10 (by rw [e18]; exact exG_pa _ _ (by simp))
    have f18 := exG_mfix x18 hf
    rw [show gx_r u18 21 10 = 36 from f18 21 10 (by decide) (by decide), show gx_r u18 21 7 = 33 from f18 21 7 (by decide) (by decide)]
    refine ⟨isA36.r, isA33, by decide, by decide, nI_pos (by omega), by show 0 + m ≤ 21; omega, by show 0 + m ≤ 21; omega, fun u26 e26 => ?_⟩
    have x26 : exG [30, 31, 32, 33] [(21, 11), (21, 12), (21, 13), (21, 14)] u u26 := exG_tr x18 (by rw [e26]; exact exG_pa _ _ (by simp))
    have f26 := exG_mfix x26 hf
    rw [show gx_r u26 21 0 = 28 from f26 21 0 (by decide) (by decide), show gx_r u26 21 4 = 30 from f26 21 4 (by decide) (by decide), nI_clamp (show T.length < 2 ^ 31 by omega)]
    refine ⟨isA28.r, isA30, by decide, by decide, nI_pos (by omega), by show 0 + T.length ≤ 2000; omega, by show 0 + T.length ≤ 2000; omega, fun u34 e34 u35 e35 u36 e36 u37 e37 => ?_⟩
    have x37 : exG [30, 31, 32, 33] [(21, 11), (21, 12), (21, 13), (21, 14)] u u37 := exG_tr x26 (exG_tr (v := u34) (by rw [e34]; exact exG_pa _ _ (by simp)) (exG_tr (v := u35) (by rw [e35]; exact exG_pi _ _ (by simp)) (exG_tr (v := u36) (by rw [e36]; exact exG_pi _ _ (by simp)) (by rw [e37]; exact exG_pi _ _ (by simp)))))
    have g11 : gx_i u37 21 11 = nI m := by subst e37 e36 e35 e34 e26 e18 e10 e2; rfl
    have g12 : gx_i u37 21 12 = nI (bdy T m) := by subst e37 e36 e35 e34 e26 e18 e10 e2; rfl
    have g13 : gx_i u37 21 13 = nI T.length := by subst e37 e36 e35 e34 e26 e18 e10 e2; rfl
    have g14 : gx_i u37 21 14 = 1 := by subst e37 e36 e35 e34 e26 e18 e10 e2; rfl
    have g30 : gx_a u37 30 = va_cpy (gx_a u 28) (gx_a u 30) 0 0 T.length := by subst e37 e36 e35 e34 e26 e18 e10 e2; rfl
    have g31 : gx_a u37 31 = va_cpy (gx_a u 34) (gx_a u 31) 0 0 m := by subst e37 e36 e35 e34 e26 e18 e10 e2; rfl
    have g32 : gx_a u37 32 = va_cpy (gx_a u 35) (gx_a u 32) 0 0 m := by subst e37 e36 e35 e34 e26 e18 e10 e2; rfl
    have g33 : gx_a u37 33 = va_cpy (gx_a u 36) (gx_a u 33) 0 0 m := by subst e37 e36 e35 e34 e26 e18 e10 e2; rfl
    clear e37 e36 e35 e34 e26 e18 e10 e2 f2 f10 f18 f26 x2 x10 x18 x26
    obtain ⟨a0, a1, a2, a3, a4, a5, a6⟩ := s0.1
    have hq : mm u37 T m := by
      refine Or.inr ⟨hm0, g14, g11, hm, ?_, hTl, g13, g12, fun j hj => ?_⟩
      · rw [g30]
        refine ⟨hT.1, fun j hj => ?_⟩
        rw [sb_cpy0 hj, hx.2.2 28 (by decide)]
        exact hT.2 j hj
      · rw [g31, g32, g33, sb_cpy0 hj, sb_cpy0 hj, sb_cpy0 hj]
        refine ⟨(hn.1 j hj).1, (hn.1 j hj).2, ?_⟩
        by_cases e : j + 1 < m
        · exact hn.2.1 j e
        · have ej : j = m - 1 := by omega
          rw [ej, hn.2.2 (by omega), show m - 1 + 1 = m by omega, hp (by omega)]
    subst hc
    exact h1 hm0 u37 (exM_tr s0.2 (exM_of x37 (by decide) (by decide))) ⟨a0, exG_mfix x37 a1, mt_ex x37 (by decide) (by decide) a2, mo_ex x37 (by decide) (by decide) a3, hq, mg_ex x37 (by intro a h1 h2 e; simp at e; omega) (by rcases a0 with rfl | rfl <;> decide) a5, mh_ex x37 (by decide) a6⟩
  · have hm0 : m = 0 := (nI_eq (b := 0) (by omega) (by omega)).mp q
    exact h2 (by omega) u s0.2 s0.1

theorem cnt_end {T : List Nat} {m : Nat} (hm : m ≤ 20) (hc : cnt T = cntF T (21 - m) m (plc T m)) (hf : fend T (plc T m) = true) : cnt T = m := by
  rw [hc, show 21 - m = (20 - m) + 1 by omega]
  unfold cntF
  rw [if_pos hf]
theorem cnt_no {T : List Nat} {m : Nat} (hm : m ≤ 20) (hc : cnt T = cntF T (21 - m) m (plc T m)) (hf : fend T (plc T m) = false) (h0 : nameLen T (plc T m) = 0 ∨ m = 20) : cnt T = 0 := by
  rw [hc, show 21 - m = (20 - m) + 1 by omega]
  unfold cntF
  rw [if_neg (by rw [hf]; decide)]
  rcases h0 with h0 | h0
  · rw [if_pos h0]
  · subst h0
    split
    · rfl
    · rfl
theorem cnt_nx {T : List Nat} {m : Nat} (hm : m ≤ 20) (hc : cnt T = cntF T (21 - m) m (plc T m)) (hf : fend T (plc T m) = false) (h0 : nameLen T (plc T m) ≠ 0) (hm2 : m ≠ 20) : cnt T = cntF T (21 - (m + 1)) (m + 1) (plc T (m + 1)) := by
  rw [hc, show 21 - m = (21 - (m + 1)) + 1 by omega]
  conv => lhs; unfold cntF
  rw [if_neg (by rw [hf]; decide), if_neg h0]
  rfl
theorem isW_N {c : Nat} (h : isW c = true) : isN c = false ∧ c ≠ 58 ∧ c ≠ 10 := by
  unfold isW at h
  simp at h
  rcases h with rfl | rfl <;> decide
theorem nw_X10_message {E : gx_E} (X : gx_X E cX10_message 8 RX10 (some .int)) (hd : 2 ≤ ex_d E) {post : Int32 → gx_S → Prop} (hQ : ex_Q E = va_Qi post (gx_B (ex_Z E)) (gx_A (ex_Z E))) {u : gx_S} {t : Nat} {T : List Nat} {v1 v2 v3 v4 v5 : Int32} {a e : Nat} (hf : mfix t u) (hT : rdb T (gx_a u 28)) (hTl : T.length ≤ 2000) (he : e ≤ T.length) (h : ∀ K, a ≤ K → K ≤ e → (∀ j, a ≤ j → j < K → isN (ch T j) = true) → (K = e ∨ isN (ch T K) = false) → J_X10_message_143 E 21 v1 v2 v3 v4 v5 (nI e) (nI K) u) :
    ∀ n K, e - K = n → a ≤ K → K ≤ e → (∀ j, a ≤ j → j < K → isN (ch T j) = true) → J_X10_message_92 E 21 v1 v2 v3 v4 v5 (nI e) (nI K) u := by
  intro n
  induction n with
  | zero =>
    intro K hn hK hK2 hj
    exact w_X10_message_92 X hd hQ ⟨fun _ => h K hK hK2 hj (Or.inl (by omega)), fun q => absurd (nI_le (by omega) (by omega)) q⟩
  | succ n ih =>
    intro K hn hK hK2 hj
    have hc := ch_lt hT.1 (j := K) (by omega)
    have hs : isN (ch T K) = true → J_X10_message_92 E 21 v1 v2 v3 v4 v5 (nI e) (nI K + 1) u := fun q => by
      rw [nI_1]
      refine ih (K + 1) (by omega) (by omega) (by omega) (fun j h1 h2 => ?_)
      by_cases ej : j = K
      · rw [ej]; exact q
      · exact hj j h1 (by omega)
    refine w_X10_message_92 X hd hQ ⟨fun q => absurd q (nI_ge (by omega) (by omega)), fun _ => ⟨isO21, ?_⟩⟩
    rw [show gx_r u 21 0 = 28 from hf 21 0 (by decide) (by decide), nI_clamp (by omega), hT.2 K (by omega)]
    refine ⟨isA28.r, in28 (by omega), i_X10_isLetter hc ⟨fun q => ?_, fun q => ?_⟩⟩
    · rintro x rfl
      have q2 := b2_n0 q
      exact hs (by unfold isN; rw [q2]; simp)
    · rw [b2_0] at q
      rw [show gx_r u 21 0 = 28 from hf 21 0 (by decide) (by decide), hT.2 K (by omega)]
      refine ⟨isA28.r, in28 (by omega), i_X10_isDigit hc ⟨fun q2 => ?_, fun q2 => ?_⟩⟩
      · rintro x rfl
        have q3 := b2_n0 q2
        exact hs (by unfold isN; rw [q3]; simp)
      · rw [b2_0] at q2
        rw [show gx_r u 21 0 = 28 from hf 21 0 (by decide) (by decide), hT.2 K (by omega), show (45 : Int32) = nI 45 from rfl, sb_eq hc (by omega)]
        refine ⟨isA28.r, in28 (by omega), fun q3 => h K hK (by omega) hj (Or.inr ?_), fun q3 => ?_⟩
        · unfold isN
          rw [q, q2]
          simpa using q3
        · rintro x rfl
          exact hs (by unfold isN; rw [q3]; simp)
theorem lp_X10_message {E : gx_E} (X : gx_X E cX10_message 8 RX10 (some .int)) (hd : 2 ≤ ex_d E) {post : Int32 → gx_S → Prop} (hQ : ex_Q E = va_Qi post (gx_B (ex_Z E)) (gx_A (ex_Z E))) {u0 : gx_S} {t k : Nat} {T O M G : List Nat} {HC KC : Nat → Int32} (hS : mS u0 t [] O M k G HC KC) (hT : rdb T (gx_a u0 28)) (hTl : T.length ≤ 2000)
    (h1 : cnt T ≠ 0 → ∀ v, exM u0 v → mS v t [] O T (cnt T) G HC KC → post (nI (cnt T)) v) (h2 : cnt T = 0 → ∀ v, exM u0 v → mS v t [] O M k G HC KC → post (-1) v) :
    ∀ (n m a : Nat) (u : gx_S), T.length - a ≤ n → exG [34, 35, 36] [] u0 u → m ≤ 20 → a ≤ T.length → (m = 0 → a = 0) → (0 < m → plc T m = pend T a) → cnt T = cntF T (21 - m) m (plc T m) → mn3 u T m a → J_X10_message_15 E 21 (nI T.length) (nI m) (nI a) (nI T.length) 1 u := by
  intro n
  induction n with
  | zero =>
    intro m a u hn hx hm ha hz hp hc hn3
    have ea : a = T.length := by omega
    have e1 : plc T m = a := by
      by_cases e : m = 0
      · rw [e, hz e]; rfl
      · rw [hp (by omega), pend_end (by omega)]
    have e2 := cnt_end hm hc (by unfold fend; rw [e1, ea]; simp)
    refine w_X10_message_15 X hd hQ ⟨fun q => absurd q (by decide), fun _ => ⟨fun _ => ?_, fun q => absurd (nI_le (by omega) (by omega)) q⟩⟩
    have := en_X10_message X hd hQ (v3 := nI a) (v5 := 1) hS hT hTl h1 h2 hx hm e2 (fun _ => e1) hn3
    rwa [show bdy T m = T.length by unfold bdy; rw [e1, ea]; simp] at this
  | succ n ih =>
    intro m a u hn hx hm ha hz hp hc hn3
    by_cases ea : a = T.length
    · exact ih m a u (by omega) hx hm ha hz hp hc hn3
    have s0 := mS_x hS hx (by decide) (by decide)
    have hf := s0.1.2.1
    have hal : a < T.length := by omega
    have hT1 : rdb T (gx_a u 28) := by rw [hx.2.2 28 (by decide)]; exact hT
    have hch := ch_lt hT.1 (j := a) hal
    obtain ⟨b1, b2', b3, b4⟩ := le_ok hal
    have hno : cnt T = 0 → post (-1) u := fun e => h2 e u s0.2 s0.1
    have e1 : isW (ch T a) = false → plc T m = a := fun hw => by
      by_cases e : m = 0
      · rw [e, hz e]; rfl
      · rw [hp (by omega)]; unfold pend; rw [if_neg (by rw [hw]; decide)]
    refine w_X10_message_15 X hd hQ ⟨fun q => absurd q (by decide), fun _ => ⟨fun q => absurd q (nI_ge (by omega) (by omega)), fun _ => ⟨isO21, ?_⟩⟩⟩
    rw [show gx_r u 21 0 = 28 from hf 21 0 (by decide) (by decide)]
    refine ⟨T, a, isA28.r, by show T.length ≤ 2000; omega, by omega, hT1, ha, rfl, rfl, ?_⟩
    dsimp only
    rw [show gx_r u 21 0 = 28 from hf 21 0 (by decide) (by decide), nI_clamp (by omega), hT1.2 a hal, show (10 : Int32) = nI 10 from rfl, sb_eq hch (by omega)]
    refine ⟨isA28.r, in28 (by omega), fun q => ⟨in28 (by omega), i_X10_isWhite hch ⟨fun q2 => ?_, fun q2 => ?_⟩⟩, fun q => ?_⟩
    · rw [b2_0] at q2
      have e2 := e1 q2
      have hfe : fend T (plc T m) = false := by unfold fend; rw [e2]; simp; omega
      refine nw_X10_message X hd hQ (a := a) hf hT1 hTl b2' (fun K k1 k2 k3 k4 => ?_) _ a rfl (Nat.le_refl _) (by omega) (fun j x y => by omega)
      have k5 : isN (ch T K) = false := by
        rcases k4 with rfl | k4
        · rcases b4 with b4 | ⟨b4, _⟩
          · exact absurd b4 (isN_58 (k3 (le_ T a - 1) (by omega) (by omega))).2.1
          · rw [ch_ge (by omega)]; rfl
        · exact k4
      have nl := nameLen_run k1 k3 k5
      refine w_X10_message_143 X hd hQ ?_
      rw [nsub (a := K) (b := a) (by omega) (B := nI a) rfl, i2l_, nI_toInt (by omega), show (1 : Int64) = lz 1 from rfl, show (20 : Int64) = lz 20 from rfl]
      refine i_X10_in (by omega) (by omega) (by omega) ⟨fun q3 => ?_, fun q3 => ⟨fun q4 => ?_, fun q4 => ⟨isO21, ?_⟩⟩⟩
      · rw [b2_0] at q3
        have q3 : ¬ ((1 : Int) ≤ ((K - a : Nat) : Int) ∧ ((K - a : Nat) : Int) ≤ 20) := by simpa using q3
        refine hno (cnt_no hm hc hfe (Or.inl ?_))
        rw [e2, nl]
        split <;> omega
      · have q4 : K = le_ T a := (nI_eq (by omega) (by omega)).mp q4
        refine hno (cnt_no hm hc hfe (Or.inl ?_))
        rw [e2, nl, if_neg]
        rintro ⟨_, z⟩
        by_cases eK : K = a
        · omega
        · rcases b4 with b4 | ⟨b4, _⟩
          · exact (isN_58 (k3 (le_ T a - 1) (by omega) (by omega))).2.1 b4
          · rw [ch_ge (by omega)] at z; omega
      · have q3 := b2_n0 q3
        have q3 : (1 : Int) ≤ ((K - a : Nat) : Int) ∧ ((K - a : Nat) : Int) ≤ 20 := by simpa using q3
        have q4 : K ≠ le_ T a := fun e => q4 (by rw [e])
        have hcK := ch_lt hT.1 (j := K) (by omega)
        rw [show gx_r u 21 0 = 28 from hf 21 0 (by decide) (by decide), nI_clamp (by omega), hT1.2 K (by omega), show (58 : Int32) = nI 58 from rfl, sb_eq hcK (by omega)]
        refine ⟨isA28.r, in28 (by omega), fun q5 => ?_, fun q5 => ⟨fun q6 => ?_, fun q6 => ?_⟩⟩
        · refine hno (cnt_no hm hc hfe (Or.inl ?_))
          rw [e2, nl, if_neg (fun z => q5 z.2)]
        · have hm2 : m ≠ 20 := fun e => q6 (by rw [e]; rfl)
          rw [if_pos ⟨by omega, q5⟩] at nl
          rw [show gx_r u 21 8 = 34 from hf 21 8 (by decide) (by decide), nI_clamp (by omega)]
          refine ⟨isA34, in21 rfl (by omega), fun u8 e8 => ?_⟩
          have x8 : exG [34, 35, 36] [] u u8 := by rw [e8]; exact exG_pa _ _ (by simp)
          have f8 := exG_mfix x8 hf
          rw [show gx_r u8 21 9 = 35 from f8 21 9 (by decide) (by decide)]
          refine ⟨isA35, in21 rfl (by omega), fun u11 e11 => ?_⟩
          have x11 : exG [34, 35, 36] [] u u11 := exG_tr x8 (by rw [e11]; exact exG_pa _ _ (by simp))
          have f11 := exG_mfix x11 hf
          rw [show gx_r u11 21 10 = 36 from f11 21 10 (by decide) (by decide)]
          refine ⟨isA36, in21 rfl (by omega), fun u14 e14 x15 e15 => ?_⟩
          have x14 : exG [34, 35, 36] [] u u14 := exG_tr x11 (by rw [e14]; exact exG_pa _ _ (by simp))
          have g34 : gx_a u14 34 = upd (gx_a u 34) m (nI a) := by subst e14 e11 e8; rfl
          have g35 : gx_a u14 35 = upd (gx_a u 35) m (nI K) := by subst e14 e11 e8; rfl
          have g36 : gx_a u14 36 = upd (gx_a u 36) m (nI (le_ T a)) := by subst e14 e11 e8; rfl
          rw [e15, nI_1]
          refine ih (m + 1) (le_ T a) u14 (by omega) (exG_tr hx x14) (by omega) b2' (by omega) (fun _ => ?_) (cnt_nx hm hc hfe (by rw [e2, nl]; omega) hm2) ⟨fun j hj => ?_, fun j hj => ?_, fun _ => ?_⟩
          · show fst_ T (plc T m) = _
            rw [e2, fst_pend hal]
          · rw [g34, g35]
            by_cases ej : j = m
            · subst ej
              rw [pk_us, pk_us, e2, nl, show a + (K - a) = K by omega]
              exact ⟨rfl, rfl⟩
            · rw [pk_un ej, pk_un ej]
              exact hn3.1 j (by omega)
          · rw [g36, pk_un (by omega)]
            by_cases ej : j + 1 < m
            · exact hn3.2.1 j ej
            · have ej : j = m - 1 := by omega
              rw [ej, hn3.2.2 (by omega), show m - 1 + 1 = m by omega, e2]
          · rw [g36, Nat.add_sub_cancel, pk_us]
        · have q6 : m = 20 := (nI_eq (b := 20) (by omega) (by omega)).mp q6
          exact hno (cnt_no hm hc hfe (Or.inr q6))
    · have q2 := b2_n0 q2
      have hw := isW_N q2
      refine ⟨fun q3 => ?_, fun q3 => ?_⟩
      · have hm0 : m ≠ 0 := fun e => q3 (by rw [e]; rfl)
        rw [show gx_r u 21 10 = 36 from hf 21 10 (by decide) (by decide), show nI m - (1 : Int32) = nI (m - 1) from nsub (a := m) (b := 1) (by omega) (B := 1) rfl, nI_clamp (by omega)]
        refine ⟨isA36, in21 rfl (by omega), fun u11 e11 => ?_⟩
        have x11 : exG [34, 35, 36] [] u u11 := by rw [e11]; exact exG_pa _ _ (by simp)
        have g34 : gx_a u11 34 = gx_a u 34 := by subst e11; rfl
        have g35 : gx_a u11 35 = gx_a u 35 := by subst e11; rfl
        have g36 : gx_a u11 36 = upd (gx_a u 36) (m - 1) (nI (le_ T a)) := by subst e11; rfl
        refine ih m (le_ T a) u11 (by omega) (exG_tr hx x11) hm b2' (by omega) (fun _ => ?_) hc ⟨fun j hj => ?_, fun j hj => ?_, fun _ => ?_⟩
        · rw [hp (by omega)]
          conv => lhs; unfold pend
          rw [if_pos q2, fst_pend hal]
        · rw [g34, g35]; exact hn3.1 j hj
        · rw [g36, pk_un (by omega)]; exact hn3.2.1 j hj
        · rw [g36, pk_us]
      · have hm0 : m = 0 := (nI_eq (b := 0) (by omega) (by omega)).mp q3
        have e2 : plc T m = a := by rw [hm0, hz hm0]; rfl
        refine hno (cnt_no hm hc (by unfold fend; rw [e2]; simp; omega) (Or.inl ?_))
        rw [e2, nameLen_run (K := a) (Nat.le_refl _) (fun j x y => by omega) hw.1, if_neg (fun z => hw.2.1 z.2)]
    · have e2 := e1 (by rw [q]; decide)
      have e3 := cnt_end hm hc (by unfold fend; rw [e2, q]; simp)
      rintro x14 rfl
      refine w_X10_message_15 X hd hQ ⟨fun _ => ?_, fun q => absurd rfl q⟩
      have := en_X10_message X hd hQ (v3 := nI (le_ T a)) (v5 := 0) hS hT hTl h1 h2 hx hm e3 (fun _ => e2) hn3
      rw [nI_1]
      rwa [show bdy T m = a + 1 by unfold bdy; rw [e2, if_pos hal]] at this
theorem w_X10_message {E : gx_E} (X : gx_X E cX10_message 8 RX10 (some .int)) (hd : 2 ≤ ex_d E) {post : Int32 → gx_S → Prop} (hQ : ex_Q E = va_Qi post (gx_B (ex_Z E)) (gx_A (ex_Z E))) {u : gx_S} {v0 : Nat} (h : S_X10_message u v0 post) : gx_Wc E 8 0 [(0, .ref (ex_ad E v0))] [] u := by
  obtain ⟨rfl, t, k, T, O, M, G, HC, KC, hS, h1, h2⟩ := h
  have hT := hS.2.2.1
  refine w_X10_message_0 X hd hQ ⟨isO21, isO21, ?_⟩
  intro x2 e2 u3 e3
  rw [e2, hT.1]
  subst e3
  have s := mS_t hS (exG_pi (A := [28]) (F := [(21, 1)]) u (0 : Int32) (by simp)) (mt_cut hT (n := 0) (by omega))
  refine lp_X10_message X hd hQ (u0 := gx_pi u 21 1 0) s.1 hT.2.2 hT.2.1 (fun e v x m => h1 e v (exM_tr s.2 x) m) (fun e v x m => h2 e v (exM_tr s.2 x) m) _ 0 0 _ (Nat.le_refl _) (exG_rf _ _ _) (by omega) (by omega) (fun _ => rfl) (fun z => absurd z (by omega)) rfl ⟨fun j hj => absurd hj (by omega), fun j hj => absurd hj (by omega), fun z => absurd z (by omega)⟩
theorem c_X10_message {l : Launch} {Z : gx_Z} {u : gx_S} {v0 : Nat} {post : Int32 → gx_S → Prop} (h : S_X10_message u v0 post) : Met l yX10_message (Cond.code yX10_message cX10_message 8 (some .int) :: gx_TB) (gx_rm 2) (gx_Pre Z u [.ref (Z.2.1 v0)]) (va_Qi post (gx_B Z) (gx_A Z)) 0 0 (gx_A Z) := by
  refine gx_met (by decide +kernel) (Nat.le_of_ble_eq_true rfl) ?_
  intro E X hZ hQ hD hL
  subst hZ
  exact w_X10_message X (Nat.le_of_eq hD.symm) hQ h

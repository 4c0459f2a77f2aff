theorem sl_cg {a b : Nat → Int32} {p n : Nat} (h : ∀ j, j < n → a (p + j) = b (p + j)) : vA (sl a p) n = vA (sl b p) n := vA_cg n (fun j hj => h j hj)
theorem okD_sl {a : Nat → Int32} {p n m : Nat} (h : okD a m) (hm : p + n ≤ m) : okD (sl a p) n := fun j hj => h (p + j) (by omega)
def S_X2_giveBack (u : gx_S) (v0 : Nat) (v1 : Int32) (post : Int64 → gx_S → Prop) : Prop := v0 = 8 ∧ cfix u ∧ ∃ p : Nat, p ≤ 31 ∧ v1 = nI p ∧ okD (gx_a u 20) 64 ∧ okD (gx_a u 18) 32 ∧ ∀ (u' : gx_S) (c : Nat), exA [20] u u' → c ≤ 1 → okD (gx_a u' 20) 64 → (∀ j, (j < p ∨ p + 32 ≤ j) → gx_a u' 20 j = gx_a u 20 j) → vA (sl (gx_a u' 20) p) 32 + c * 65536 ^ 32 = vA (sl (gx_a u 20) p) 32 + vA (gx_a u 18) 32 → post (lz c) u'
theorem lp_X2_giveBack {E : gx_E} (X : gx_X E cX2_giveBack 5 RX2 (some .long)) (hd : 0 ≤ ex_d E) {post : Int64 → gx_S → Prop} (hQ : ex_Q E = va_Ql post (gx_B (ex_Z E)) (gx_A (ex_Z E))) {p : Nat} {u0 : gx_S} (hp : p ≤ 31) (hf0 : cfix u0) (hM : okD (gx_a u0 18) 32)
    (hh : ∀ (u' : gx_S) (c : Nat), exA [20] u0 u' → c ≤ 1 → okD (gx_a u' 20) 64 → (∀ j, (j < p ∨ p + 32 ≤ j) → gx_a u' 20 j = gx_a u0 20 j) → vA (sl (gx_a u' 20) p) 32 + c * 65536 ^ 32 = vA (sl (gx_a u0 20) p) 32 + vA (gx_a u0 18) 32 → post (lz c) u') :
    ∀ (n i c : Nat) (u : gx_S), 32 - i = n → i ≤ 32 → c ≤ 1 → exA [20] u0 u → okD (gx_a u 20) 64 → (∀ j, (j < p ∨ p + 32 ≤ j) → gx_a u 20 j = gx_a u0 20 j) → vA (sl (gx_a u 20) p) 32 + c * 65536 ^ i = vA (sl (gx_a u0 20) p) 32 + vA (gx_a u0 18) i → J_X2_giveBack_5 E 8 (nI p) (lz c) (nI i) u := by
  intro n
  induction n with
  | zero =>
    intro i c u hn hi hc hx hP ho he
    have ei : i = 32 := by omega
    subst ei
    exact w_X2_giveBack_5 X hd hQ ⟨fun _ => hh u c hx hc hP ho he, fun q => absurd (nI_le (a := 32) (by omega) (by omega)) q⟩
  | succ n ih =>
    intro i c u hn hi hc hx hP ho he
    have e3 : gx_r u 8 3 = 20 := (exA_r hx 8 3).trans (hf0 8 3 (by decide))
    have e1 : gx_r u 8 1 = 18 := (exA_r hx 8 1).trans (hf0 8 1 (by decide))
    have bP := hP (p + i) (by omega)
    have bM := hM i (by omega)
    refine w_X2_giveBack_5 X hd hQ ⟨fun q => absurd q (nI_ge (b := 32) (by omega) (by omega)), fun _ => ?_⟩
    rw [e3, e1, nI_add, nI_clamp (by omega), nI_clamp (by omega), hx.2.2.2 18 (by decide)]
    refine ⟨isO_x 8 2 (by decide), isA20.r, in20 (by omega), isA18.r, in32 rfl (by omega), ?_⟩
    intro x6 e6
    rw [← nI_dv (gx_a u 20 (p + i)), ← nI_dv (gx_a u0 18 i), nI_add, nI_l (by omega), lz_n, lz_add, show ((c : Int) + ((dv (gx_a u 20 (p + i)) + dv (gx_a u0 18 i) : Nat) : Int)) = ((c + (dv (gx_a u 20 (p + i)) + dv (gx_a u0 18 i)) : Nat) : Int) by push_cast; rfl] at e6
    generalize hxx : c + (dv (gx_a u 20 (p + i)) + dv (gx_a u0 18 i)) = x at e6
    subst e6
    refine ⟨isA20, in20 (by omega), ?_⟩
    rintro u9 rfl x10 e10 x11 rfl
    rw [nI_1]
    rw [lz_shr (by omega) (by omega), show ((x : Int) / 65536) = ((x / 65536 : Nat) : Int) by omega] at e10
    subst e10
    rw [lz_and, show ((x : Int) % 65536).toNat = x % 65536 by omega]
    refine ih (i + 1) (x / 65536) _ (by omega) (by omega) (by omega) (exA_tr hx (exA_pa _ _ (by simp))) ?_ (fun j hj => ?_) ?_
    · rw [gx_a_pa, if_pos rfl]; exact okD_upd hP (by omega)
    · rw [gx_a_pa, if_pos rfl, pk_un (by omega)]; exact ho j hj
    · rw [gx_a_pa, if_pos rfl, sl_upd]
      have hu := vA_upd (a := sl (gx_a u 20) p) (k := i) (x := nI (x % 65536)) 32 (by omega)
      rw [dv_nI (by omega), show sl (gx_a u 20) p i = gx_a u 20 (p + i) from rfl] at hu
      have hs := sp_mul x (65536 ^ i)
      have e1 : x * 65536 ^ i = c * 65536 ^ i + (dv (gx_a u 20 (p + i)) * 65536 ^ i + dv (gx_a u0 18 i) * 65536 ^ i) := by rw [← hxx, Nat.add_mul, Nat.add_mul]
      rw [pow_s, vA_s (gx_a u0 18) i]
      omega
theorem w_X2_giveBack {E : gx_E} (X : gx_X E cX2_giveBack 5 RX2 (some .long)) (hd : 0 ≤ ex_d E) {post : Int64 → gx_S → Prop} (hQ : ex_Q E = va_Ql post (gx_B (ex_Z E)) (gx_A (ex_Z E))) {u : gx_S} {v0 : Nat} {v1 : Int32} (h : S_X2_giveBack u v0 v1 post) : gx_Wc E 5 0 [(0, .ref (ex_ad E v0)), (1, .int v1)] [] u := by
  obtain ⟨rfl, hf, p, hp, rfl, hP, hM, hh⟩ := h
  exact w_X2_giveBack_0 X hd hQ (lp_X2_giveBack X hd hQ hp hf hM hh 32 0 0 u (by omega) (by omega) (by omega) (exA_rf _ _) hP (fun _ _ => rfl) (by rw [Nat.zero_mul, vA_0]))
theorem c_X2_giveBack {l : Launch} {Z : gx_Z} {u : gx_S} {v0 : Nat} {v1 : Int32} {post : Int64 → gx_S → Prop} (h : S_X2_giveBack u v0 v1 post) : Met l yX2_giveBack (Cond.code yX2_giveBack cX2_giveBack 5 (some .long) :: gx_TB) (gx_rm 0) (gx_Pre Z u [.ref (Z.2.1 v0), .int v1]) (va_Ql post (gx_B Z) (gx_A Z)) 0 0 (gx_A Z) := by
  refine gx_met (by decide +kernel) (Nat.le_of_ble_eq_true rfl) ?_
  intro E X hZ hQ hD hL
  subst hZ
  exact w_X2_giveBack X (Nat.le_of_eq hD.symm) hQ h
-- the guess
theorem kn_lo {U Ul t Mv Ml m A q : Nat} (hU : U = Ul + A * t) (hUl : Ul < A) (hM : Mv = Ml + A * m) (hm : 0 < m) (hq : q * Mv ≤ U) : q ≤ t / m := by
  rw [Nat.le_div_iff_mul_le hm]
  refine Nat.not_lt.mp (fun h => ?_)
  have h1 : A * (t + 1) ≤ A * (q * m) := Nat.mul_le_mul_left A h
  have h2 : q * Mv = q * Ml + A * (q * m) := by rw [hM, Nat.mul_add, Nat.mul_left_comm]
  rw [Nat.mul_add] at h1
  omega
theorem kn_hi {U Ul t Mv Ml m A q : Nat} (hU : U = Ul + A * t) (hM : Mv = Ml + A * m) (hMl : Ml < A) (hm : 32768 ≤ m) (hq : q ≤ t / m) (hqB : q < 65536) : q * Mv < U + 2 * Mv := by
  have h1 : q * m ≤ t := (Nat.le_div_iff_mul_le (by omega)).mp hq
  have h2 : A * (q * m) ≤ A * t := Nat.mul_le_mul_left A h1
  have h3 : q * Mv = q * Ml + A * (q * m) := by rw [hM, Nat.mul_add, Nat.mul_left_comm]
  have h4 : q * Ml ≤ 65535 * Ml := Nat.mul_le_mul_right Ml (by omega)
  have h5 : A * 32768 ≤ A * m := Nat.mul_le_mul_left A hm
  omega
theorem i_X2_guessedDigit {u : gx_S} {p : Nat} {post : Int64 → gx_S → Prop} (hf : cfix u) (hp : p ≤ 31) (hP : okD (gx_a u 20) 64) (hM : okD (gx_a u 18) 32) (hm : 32768 ≤ dv (gx_a u 18 31)) (hU : vA (sl (gx_a u 20) p) 33 < 65536 * vA (gx_a u 18) 32) (h : ∀ q : Nat, q < 65536 → vA (sl (gx_a u 20) p) 33 / vA (gx_a u 18) 32 ≤ q → q ≤ vA (sl (gx_a u 20) p) 33 / vA (gx_a u 18) 32 + 2 → post (lz q) u) : S_X2_guessedDigit u 8 (nI p) post := by
  have b1 := hP (p + 32) (by omega)
  have b2' := hP (p + 31) (by omega)
  have bm := hM 31 (by omega)
  unfold S_X2_guessedDigit
  rw [show gx_r u 8 3 = 20 from hf 8 3 (by decide), show gx_r u 8 1 = 18 from hf 8 1 (by decide), show (32 : Int32) = nI 32 from rfl, nI_add, nsub (a := p + 32) (b := 1) (B := 1) (by omega) rfl, nI_clamp (by omega), nI_clamp (by omega), show p + 32 - 1 = p + 31 by omega, show (31 : Int32).toNatClampNeg = 31 from rfl]
  refine ⟨isO_x 8 2 (by decide), isA20.r, in20 (by omega), in20 (by omega), ?_⟩
  intro x5 e5
  have hm2 : (gx_a u 18 31 ||| (32768 : Int32)) = gx_a u 18 31 := by
    rw [← nI_dv (gx_a u 18 31), show (32768 : Int32) = nI 32768 from rfl, nI_or (by omega) (by omega)]
    congr 1
    have hb : ∀ m : Fin 65536, 32768 ≤ m.val → m.val ||| 32768 = m.val := by
      intro m hm
      have e : m.val = 2 ^ 15 * 1 + (m.val - 32768) := by omega
      have l : m.val - 32768 < 2 ^ 15 := by have := m.isLt; omega
      rw [e, Nat.two_pow_add_eq_or_of_lt l, Nat.or_assoc, Nat.or_comm _ 32768, ← Nat.or_assoc]
      simp
    exact hb ⟨dv (gx_a u 18 31), bm⟩ hm
  rw [lz_dv b1, lz_dv b2', ← lz_n, ← lz_n, show (16 : Int32) = nI 16 from rfl, wb_shl _ (by omega), wb_or (by omega) (by omega), Nat.mul_comm (dv (gx_a u 20 (p + 32))), ← Nat.two_pow_add_eq_or_of_lt (by omega)] at e5
  subst e5
  refine ⟨isA18.r, in32 (i := 31) rfl (by omega), ?_, ?_⟩
  · rw [hm2, lz_dv bm, ← lz_n]
    intro e
    have := (pk_lEQ (b := 0) (by omega) (by omega)).mp e
    omega
  · intro x9 e9
    rw [hm2, lz_dv bm, ← lz_n, pk_lDiv (by omega) (by omega) (by omega)] at e9
    subst e9
    have hdl : (2 ^ 16 * dv (gx_a u 20 (p + 32)) + dv (gx_a u 20 (p + 31))) / dv (gx_a u 18 31) ≤ 2 ^ 16 * dv (gx_a u 20 (p + 32)) + dv (gx_a u 20 (p + 31)) := Nat.div_le_self _ _
    generalize ht : 2 ^ 16 * dv (gx_a u 20 (p + 32)) + dv (gx_a u 20 (p + 31)) = t at hdl ⊢
    have hUe : vA (sl (gx_a u 20) p) 33 = vA (sl (gx_a u 20) p) 31 + 65536 ^ 31 * t := by
      rw [vA_s _ 32, vA_s _ 31, show sl (gx_a u 20) p 31 = gx_a u 20 (p + 31) from rfl, show sl (gx_a u 20) p 32 = gx_a u 20 (p + 32) from rfl, ← ht, Nat.mul_add, show (65536 : Nat) ^ 32 = 65536 * 65536 ^ 31 from pow_s 31, Nat.mul_comm (65536 ^ 31) (dv (gx_a u 20 (p + 31)))]
      have e : 65536 ^ 31 * (2 ^ 16 * dv (gx_a u 20 (p + 32))) = dv (gx_a u 20 (p + 32)) * (65536 * 65536 ^ 31) := by
        rw [Nat.mul_comm (65536 ^ 31), show (2 : Nat) ^ 16 = 65536 from rfl, Nat.mul_comm 65536 (dv _), Nat.mul_assoc]
      omega
    have hMe : vA (gx_a u 18) 32 = vA (gx_a u 18) 31 + 65536 ^ 31 * dv (gx_a u 18 31) := by rw [vA_s _ 31, Nat.mul_comm]
    have l1 : vA (sl (gx_a u 20) p) 31 < 65536 ^ 31 := vA_lt 31 (okD_sl hP (by omega))
    have l2 : vA (gx_a u 18) 31 < 65536 ^ 31 := vA_lt 31 (fun j hj => hM j (by omega))
    have hpos : 0 < vA (gx_a u 18) 32 := by
      rw [hMe]
      have : 65536 ^ 31 * 32768 ≤ 65536 ^ 31 * dv (gx_a u 18 31) := Nat.mul_le_mul_left _ hm
      have : 0 < 65536 ^ 31 := Nat.pow_pos (by omega)
      omega
    generalize vA (sl (gx_a u 20) p) 33 = U at hU h hUe ⊢
    generalize vA (gx_a u 18) 32 = Mv at hU h hMe hpos ⊢
    have hlow : U / Mv ≤ t / dv (gx_a u 18 31) := kn_lo hUe l1 hMe (by omega) (Nat.div_mul_le_self U Mv)
    have hlt : U / Mv < 65536 := (Nat.div_lt_iff_lt_mul hpos).mpr hU
    have up : ∀ q, q ≤ t / dv (gx_a u 18 31) → q < 65536 → q ≤ U / Mv + 2 := by
      intro q h1 h2
      have h3 := kn_hi hUe hMe l2 hm h1 h2
      have h4 : (q - 2) * Mv ≤ U := by rw [Nat.sub_mul]; omega
      have := (Nat.le_div_iff_mul_le hpos).mpr h4
      omega
    rw [show (65535 : Int64) = lN 65535 from rfl]
    split
    · rename_i hq
      rw [pk_lLT (by omega) (by omega)] at hq
      rw [lz_n]
      exact h 65535 (by omega) (by omega) (up _ (by omega) (by omega))
    · rename_i hq
      rw [pk_lLT (by omega) (by omega)] at hq
      rw [lz_n]
      exact h _ (by omega) hlow (up _ (Nat.le_refl _) (by omega))

theorem lpr98 {E : gx_E} (X : gx_X E cX10_remainder 9 RX10 none) (hd : 1 ≤ ex_d E) {post : gx_S → Prop} (hQ : ex_Q E = va_Qv post (gx_B (ex_Z E)) (gx_A (ex_Z E))) {u0 : gx_S} {t v1 N : Nat} {v2 v4 v5 : Int32} {A : Nat → Int32} (hN : N = 33) (hf0 : mfix t u0) (hA : okD A N) (hM : okD (gx_a u0 52) N) (hge : vA (gx_a u0 52) N ≤ vA A N)
    (next : ∀ u, exA [53] u0 u → okD (gx_a u 53) N → vA (gx_a u 53) N + vA (gx_a u0 52) N = vA A N → J_X10_remainder_13 E 21 v1 v2 53 (v4 + (-1)) u) :
    ∀ (n j b : Nat) (u : gx_S), N - j = n → j ≤ N → b < 2 → exA [53] u0 u → okD (gx_a u 53) N → (∀ i, j ≤ i → i < N → gx_a u 53 i = A i) → vA (gx_a u 53) j + vA (gx_a u0 52) j = vA A j + b * 65536 ^ j → (0 < b ∨ b = 0) → J_X10_remainder_98 E 21 v1 v2 53 v4 v5 (nI b) (nI j) u := by
  intro n
  induction n with
  | zero =>
    intro j b u hn hj hb hx ok hi he _
    have ej : N = j := by omega
    subst ej
    refine w_X10_remainder_98 X hd hQ ⟨fun _ => ?_, fun q => absurd (nI_le (a := 33) (by omega) (by omega)) q⟩
    rintro x rfl
    exact next u hx ok (sub_fin he (vA_lt _ ok) hge hb)
  | succ n ih =>
    intro j b u hn hj hb hx ok hi he _
    have hf := exA_mfix hx hf0
    have aj := hi j (Nat.le_refl _) (by omega)
    have dA := hA j (by omega)
    have dM := hM j (by omega)
    refine w_X10_remainder_98 X hd hQ ⟨fun q => absurd q (nI_ge (b := 33) (by omega) (by omega)), fun _ => ?_⟩
    rw [show gx_r u 21 20 = 52 from hf 21 20 (by decide) (by decide), nI_clamp (by omega), aj, hx.2.2.2 52 (by decide)]
    refine ⟨isA53.r, inL (N := 33) rfl (by omega) (by omega), isO21, isA52.r, inL (N := 33) rfl (by omega) (by omega), fun x7 e7 => ⟨isA53, inL (N := 33) rfl (by omega) (by omega), fun u10 e10 => ?_⟩⟩
    rw [← nI_dv (A j), ← nI_dv (gx_a u0 52 j)] at e7
    obtain ⟨g1, g2⟩ := dv_sub3 dA dM hb
    rw [← e7] at g1 g2
    rw [and16, g1] at e10
    have x10 : exA [53] u0 u10 := exA_tr hx (by rw [e10]; exact exA_pa _ _ (by simp))
    have a10 : gx_a u10 53 = upd (gx_a u 53) j (nI ((dv (A j) + 131072 - dv (gx_a u0 52 j) - b) % 65536)) := by rw [e10, gx_a_pa, if_pos rfl]
    have ok10 : okD (gx_a u10 53) N := by rw [a10]; exact okD_upd ok (Nat.mod_lt _ (by omega))
    have hi10 : ∀ i, j + 1 ≤ i → i < N → gx_a u10 53 i = A i := fun i h1 h2 => by rw [a10, pk_un (by omega)]; exact hi i (by omega) h2
    have st : ∀ b', dv (A j) + b' * 65536 = dv (gx_a u0 52 j) + b + (dv (A j) + 131072 - dv (gx_a u0 52 j) - b) % 65536 → vA (gx_a u10 53) (j + 1) + vA (gx_a u0 52) (j + 1) = vA A (j + 1) + b' * 65536 ^ (j + 1) := fun b' hb' => by
      rw [vA_s, vA_s, vA_s, a10, vA_ge _ (Nat.le_refl _), pk_us, dv_nI (by omega), pow_s]
      exact st_sub he hb'
    refine ⟨fun q => ?_, fun q => ?_⟩
    · rintro x rfl
      rw [nI_1]
      have q := g2.mp q
      exact ih (j + 1) 0 u10 (by omega) (by omega) (by omega) x10 ok10 hi10 (st 0 (by omega)) (Or.inr rfl)
    · rintro x rfl
      rw [nI_1]
      have q : ¬ dv (gx_a u0 52 j) + b ≤ dv (A j) := fun z => q (g2.mpr z)
      exact ih (j + 1) 1 u10 (by omega) (by omega) (by omega) x10 ok10 hi10 (st 1 (by omega)) (Or.inl (by omega))
theorem lpr38 {E : gx_E} (X : gx_X E cX10_remainder 9 RX10 none) (hd : 1 ≤ ex_d E) {post : gx_S → Prop} (hQ : ex_Q E = va_Qv post (gx_B (ex_Z E)) (gx_A (ex_Z E))) {u0 : gx_S} {t v1 c0 N : Nat} {v2 v4 : Int32} {A : Nat → Int32} (hN : N = 33) (hf0 : mfix t u0) (hA : okD A N) (hM : okD (gx_a u0 52) N) (hlt : 2 * vA A N + c0 < 65536 ^ N)
    (next : ∀ u, exA [53] u0 u → okD (gx_a u 53) N → (vA (gx_a u 53) N = 2 * vA A N + c0 ∧ 2 * vA A N + c0 < vA (gx_a u0 52) N ∨ vA (gx_a u 53) N + vA (gx_a u0 52) N = 2 * vA A N + c0) → J_X10_remainder_13 E 21 v1 v2 53 (v4 + (-1)) u) :
    ∀ (n j c : Nat) (u : gx_S), N - j = n → j ≤ N → c < 2 → exA [53] u0 u → okD (gx_a u 53) N → (∀ i, j ≤ i → i < N → gx_a u 53 i = A i) → vA (gx_a u 53) j + c * 65536 ^ j = 2 * vA A j + c0 → J_X10_remainder_38 E 21 v1 v2 53 v4 (nI c) (nI j) u := by
  intro n
  induction n with
  | zero =>
    intro j c u hn hj hc hx ok hi he
    have ej : N = j := by omega
    subst ej
    have hf := exA_mfix hx hf0
    have hval : vA (gx_a u 53) N = 2 * vA A N + c0 := shl_fin he hlt hc
    have e52 : gx_a u 52 = gx_a u0 52 := hx.2.2.2 52 (by decide)
    refine w_X10_remainder_38 X hd hQ ⟨fun _ => ⟨isO21, ?_⟩, fun q => absurd (nI_le (a := 33) (by omega) (by omega)) q⟩
    rw [show gx_r u 21 20 = 52 from hf 21 20 (by decide) (by decide)]
    refine ⟨isA53.r, isA52.r, rfl, rfl, by rw [← hN]; exact ok, by rw [← hN, e52]; exact hM, fun q => ?_, fun q => ?_⟩
    · rw [b2_0] at q
      rw [← hN] at q
      have q : ¬ vA (gx_a u 53) N < vA (gx_a u 52) N := by simpa using q
      refine lpr98 X hd hQ (u0 := u) (A := gx_a u 53) hN hf ok (by rw [e52]; exact hM) (by omega) (fun v xv okv hv => ?_) N 0 0 u rfl (by omega) (by omega) (exA_rf _ _) ok (fun i _ _ => rfl) (by rw [vA_0, vA_0]) (Or.inr rfl)
      rw [e52] at hv
      exact next v (exA_tr hx xv) okv (Or.inr (by omega))
    · have q := b2_n0 q
      rw [← hN] at q
      have q : vA (gx_a u 53) N < vA (gx_a u 52) N := by simpa using q
      rintro x rfl
      rw [e52] at q
      exact next u hx ok (Or.inl ⟨hval, by omega⟩)
  | succ n ih =>
    intro j c u hn hj hc hx ok hi he
    have aj := hi j (Nat.le_refl _) (by omega)
    have dA := hA j (by omega)
    refine w_X10_remainder_38 X hd hQ ⟨fun q => absurd q (nI_ge (b := 33) (by omega) (by omega)), fun _ => ?_⟩
    rw [nI_clamp (by omega), aj]
    refine ⟨isA53.r, inL (N := 33) rfl (by omega) (by omega), fun x8 e8 => ⟨isA53, inL (N := 33) rfl (by omega) (by omega), fun u11 e11 x12 e12 x13 e13 => ?_⟩⟩
    rw [← nI_dv (A j), shl1_or dA hc] at e8
    subst e8
    rw [and16, dv_nI (by omega)] at e11
    rw [show (16 : Int32) = nI 16 from rfl, shrN (by omega) (by omega)] at e12
    rw [e12, e13, nI_1]
    have a11 : gx_a u11 53 = upd (gx_a u 53) j (nI ((2 * dv (A j) + c) % 65536)) := by rw [e11, gx_a_pa, if_pos rfl]
    refine ih (j + 1) ((2 * dv (A j) + c) / 2 ^ 16) u11 (by omega) (by omega) (by omega) (exA_tr hx (by rw [e11]; exact exA_pa _ _ (by simp))) (by rw [a11]; exact okD_upd ok (Nat.mod_lt _ (by omega))) (fun i h1 h2 => by rw [a11, pk_un (by omega)]; exact hi i (by omega) h2) ?_
    rw [vA_s, vA_s, a11, vA_ge _ (Nat.le_refl _), pk_us, dv_nI (by omega), pow_s]
    exact st_shl he (by omega)
theorem w_X10_remainder {E : gx_E} (X : gx_X E cX10_remainder 9 RX10 none) (hd : 1 ≤ ex_d E) {post : gx_S → Prop} (hQ : ex_Q E = va_Qv post (gx_B (ex_Z E)) (gx_A (ex_Z E))) {u : gx_S} {v0 v1 : Nat} {v2 : Int32} {v3 : Nat} (h : S_X10_remainder u v0 v1 v2 v3 post) : gx_Wc E 9 0 [(0, .ref (ex_ad E v0)), (1, .ref (ex_ad E v1)), (2, .int v2), (3, .ref (ex_ad E v3))] [] u := by
  obtain ⟨rfl, rfl, t, n, N, hN, hf0, h1, hn, hn1, hl1, hne, rfl, ok1, okM, hM0, hM2, hp⟩ := h
  have lp : ∀ k v, k ≤ 16 * n → exA [53] u v → okD (gx_a v 53) N → vA (gx_a v 53) N = vA (gx_a u v1) n / 2 ^ k % vA (gx_a u 52) N → J_X10_remainder_13 E 21 v1 (nI n) 53 (nI k - 1) v := by
    intro k
    induction k with
    | zero =>
      intro v hk hx ok hv
      refine w_X10_remainder_13 X hd hQ ⟨fun _ => hp v hx ok ?_, fun q => absurd (by decide) q⟩
      rw [hv, Nat.pow_zero, Nat.div_one]
    | succ k ih =>
      intro v hk hx ok hv
      have e1 : gx_a v v1 = gx_a u v1 := hx.2.2.2 v1 (by simpa using hne)
      have e52 : gx_a v 52 = gx_a u 52 := hx.2.2.2 52 (by decide)
      have hlt : vA (gx_a v 53) N < vA (gx_a u 52) N := by rw [hv]; exact Nat.mod_lt _ hM0
      have hb : vA (gx_a u v1) n / 2 ^ k % 2 < 2 := Nat.mod_lt _ (by omega)
      rw [nsub (a := k + 1) (b := 1) (by omega) (B := 1) rfl, Nat.add_sub_cancel]
      refine w_X10_remainder_13 X hd hQ ⟨fun q => absurd q (nI_pos (by omega)), fun _ => ?_⟩
      have dq := ok1 (k / 16) (by omega)
      rw [show (16 : Int32) = nI 16 from rfl, pk_div (by omega) (by omega) (by omega), nI_clamp (show k / 16 < 2 ^ 31 by omega), pk_mul, pk_sub (by omega), show k - k / 16 * 16 = k % 16 by omega, e1, ← nI_dv (gx_a u v1 (k / 16)), shrN (by omega) (by omega)]
      refine ⟨h1, vp_in_nI (by omega) (by omega), fun x3 e3 => ?_⟩
      have hdl : dv (gx_a u v1 (k / 16)) / 2 ^ (k % 16) ≤ dv (gx_a u v1 (k / 16)) := Nat.div_le_self _ _
      rw [pk_andN (by omega) 1 (by decide), Nat.pow_one, bit_vA ok1 (by omega)] at e3
      rw [e3]
      refine lpr38 X hd hQ (u0 := v) (A := gx_a v 53) (c0 := vA (gx_a u v1) n / 2 ^ k % 2) hN (exA_mfix hx hf0) ok (by rw [e52]; exact okM) (by omega) (fun w xw okw hw => ?_) N 0 _ v rfl (by omega) hb (exA_rf _ _) ok (fun i _ _ => rfl) (by rw [vA_0, Nat.pow_zero]; omega)
      rw [nm1]
      rw [e52] at hw
      refine ih w (by omega) (exA_tr hx xw) okw (md_s hM0 hv ?_)
      rcases hw with ⟨w1, w2⟩ | w1
      · exact Or.inl ⟨w1, by omega⟩
      · exact Or.inr w1
  refine w_X10_remainder_0 X hd hQ ⟨isA53, by decide, rfl, fun v xv mv => ?_⟩
  rintro x2 rfl
  rw [show (16 : Int32) = nI 16 from rfl, pk_mul]
  refine lp (16 * n) v (Nat.le_refl _) xv (fun j hj => by rw [mv j (by show j < 33; omega)]; decide) ?_
  rw [vA_zero N (fun j hj => mv j (by show j < 33; omega)), Nat.div_eq_of_lt, Nat.zero_mod]
  have := vA_lt n ok1
  rwa [show (65536 : Nat) = 2 ^ 16 from rfl, ← Nat.pow_mul] at this
theorem c_X10_remainder {l : Launch} {Z : gx_Z} {u : gx_S} {v0 : Nat} {v1 : Nat} {v2 : Int32} {v3 : Nat} {post : gx_S → Prop} (h : S_X10_remainder u v0 v1 v2 v3 post) : Met l yX10_remainder (Cond.code yX10_remainder cX10_remainder 9 none :: gx_TB) (gx_rm 1) (gx_Pre Z u [.ref (Z.2.1 v0), .ref (Z.2.1 v1), .int v2, .ref (Z.2.1 v3)]) (va_Qv post (gx_B Z) (gx_A Z)) 0 0 (gx_A Z) := by
  refine gx_met (by decide +kernel) (Nat.le_of_ble_eq_true rfl) ?_
  intro E X hZ hQ hD hL
  subst hZ
  exact w_X10_remainder X (Nat.le_of_eq hD.symm) hQ h

-- roots and primes, as functions
def u32_ (x : Int64) : Int64 := (x.toUInt64 >>> ((32 : Int32).toInt64.toUInt64 &&& Int64.toUInt64 63)).toInt64
def lo_ (x : Int64) : Int64 := x &&& (4294967295 : Int64)
def s32_ (x : Int64) : Int64 := x >>> ((32 : Int32).toInt64 &&& 63)
def l32_ (x : Int64) : Int64 := x <<< ((32 : Int32).toInt64 &&& 63)
def mHb (x1 x2 x3 x4 x5 : Int64) : Int64 := ((x1 * x3) + s32_ ((x1 * x4) + u32_ x5)) + s32_ (lo_ ((x1 * x4) + u32_ x5) + (x2 * x3))
def mH (a b : Int64) : Int64 := mHb (s32_ a) (lo_ a) (s32_ b) (lo_ b) (lo_ a * lo_ b)
theorem i_J9_mH {u : gx_S} {a b : Int64} {post : Int64 → gx_S → Prop} (h : post (mH a b) u) : S_J9_multiplyHigh_f86c9 u a b post := by
  unfold S_J9_multiplyHigh_f86c9
  rintro x1 rfl x2 rfl x3 rfl x4 rfl x5 rfl x6 rfl x7 rfl x8 rfl x9 rfl
  exact h
def am2 (h q : Int64) (p : Int32) : Bool := if lg_cmp h p.toInt64 < 0 then true else if lg_cmp h p.toInt64 = 0 then decide (lg_cmp q 0 = 0) else false
def am3c (x10 x11 x12 : Int64) (p : Int32) : Bool := if lg_cmp x12 (l32_ p.toInt64) < 0 then true else if lg_cmp x12 (l32_ p.toInt64) = 0 then (if lg_cmp x10 0 = 0 then decide (lg_cmp x11 0 = 0) else false) else false
def am3b (v0 r2 x5 x6 x8 x9 : Int64) (p : Int32) : Bool := am3c (lo_ x9) (lo_ x6) ((((u32_ x8 + u32_ x9) + (x5 * u32_ v0)) + (r2 * lo_ v0)) + l32_ (r2 * u32_ v0)) p
def am3a (v0 r2 x4 x5 x6 x8 : Int64) (p : Int32) : Bool := am3b v0 r2 x5 x6 x8 ((x4 * u32_ v0) + lo_ x8) p
def am3 (v0 r2 x4 x5 x6 : Int64) (p : Int32) : Bool := am3a v0 r2 x4 x5 x6 ((x5 * lo_ v0) + u32_ x6) p
def am (r : Int64) (pw p : Int32) : Bool := if pw = 2 then am2 (mH r r) (r * r) p else am3 r (mH r r) (lo_ (r * r)) (u32_ (r * r)) (lo_ (r * r) * lo_ r) p
theorem i_X7_isAtMost {u : gx_S} {r : Int64} {pw p : Int32} {post : Int32 → gx_S → Prop} (h : post (b2 (am r pw p)) u) : S_X7_isAtMost u r pw p post := by
  unfold S_X7_isAtMost
  refine i_J9_mH ?_
  rintro x3 rfl
  unfold am at h
  refine ⟨fun q => ?_, fun q => ?_⟩
  · rw [if_neg q] at h
    rintro x4 rfl x5 rfl x6 rfl x7 rfl x8 rfl x9 rfl x10 rfl x11 rfl x12 rfl
    unfold am3 am3a am3b am3c u32_ lo_ l32_ at h
    refine ⟨fun c1 => ?_, fun c1 => ⟨fun c2 => ?_, fun c2 => ⟨fun c3 => ?_, fun c3 => ⟨fun c4 => ?_, fun c4 => ?_⟩⟩⟩⟩
    · rw [if_pos c1] at h; exact h
    · rw [if_neg c1, if_neg c2] at h; exact h
    · rw [if_neg c1, if_pos c2, if_neg c3] at h; exact h
    · rw [if_neg c1, if_pos c2, if_pos c3, decide_eq_false c4] at h; exact h
    · rw [if_neg c1, if_pos c2, if_pos c3, decide_eq_true c4] at h; exact h
  · rw [if_pos q] at h
    unfold am2 at h
    refine ⟨fun c1 => ?_, fun c1 => ⟨fun c2 => ?_, fun c2 => ⟨fun c3 => ?_, fun c3 => ?_⟩⟩⟩
    · rw [if_pos c1] at h; exact h
    · rw [if_neg c1, if_neg c2] at h; exact h
    · rw [if_neg c1, if_pos c2, decide_eq_false c3] at h; exact h
    · rw [if_neg c1, if_pos c2, decide_eq_true c3] at h; exact h
def bt (k : Nat) : Int64 := lN (2 ^ k / 2)
theorem bt_ok : ∀ k, k < 37 → ¬ lg_cmp (bt (k + 1)) 0 ≤ 0 ∧ bt (k + 1) >>> ((1 : Int32).toInt64 &&& 63) = bt k := by decide +kernel
def roF (pw p : Int32) : Nat → Int64 → Int64
  | 0, r => r
  | k + 1, r => roF pw p k (if am (r + bt (k + 1)) pw p = true then r + bt (k + 1) else r)
def rt (p pw : Int32) : Int32 := (roF pw p 37 0).toInt32
def S_X7_rootOf (u : gx_S) (v0 v1 : Int32) (post : Int32 → gx_S → Prop) : Prop := post (rt v0 v1) u
theorem w_X7_rootOf {E : gx_E} (X : px_X E cX7_rootOf 6 RX7 (some .int)) (hd : 3 ≤ ex_d E) {post : Int32 → gx_S → Prop} (hQ : ex_Q E = va_Qi post (px_B (ex_Z E)) (px_A (ex_Z E))) {u : gx_S} {v0 v1 : Int32} (h : S_X7_rootOf u v0 v1 post) : px_Wc E 6 0 [(0, .int v0), (1, .int v1)] [] u := by
  have lp : ∀ (k : Nat) (r : Int64), k ≤ 37 → post (roF v1 v0 k r).toInt32 u → J_X7_rootOf_7 E v0 v1 r (bt k) u := by
    intro k
    induction k with
    | zero =>
      intro r hk h
      exact w_X7_rootOf_7 X hd hQ ⟨fun _ => h, fun q => absurd (by decide) q⟩
    | succ k ih =>
      intro r hk h
      obtain ⟨b1, b2'⟩ := bt_ok k (by omega)
      unfold roF at h
      refine w_X7_rootOf_7 X hd hQ ⟨fun q => absurd q b1, fun _ => i_X7_isAtMost ⟨fun q => ?_, fun q => ?_⟩⟩
      · rw [b2_0] at q
        rw [q, if_neg (by decide)] at h
        rintro x3 rfl
        rw [b2']
        exact ih r (by omega) h
      · have q := b2_n0 q
        rw [q, if_pos rfl] at h
        rintro x4 rfl x5 rfl
        rw [b2']
        exact ih _ (by omega) h
  exact w_X7_rootOf_0 X hd hQ (lp 37 0 (by omega) h)
theorem c_X7_rootOf {l : Launch} {Z : gx_Z} {u : gx_S} {v0 : Int32} {v1 : Int32} {post : Int32 → gx_S → Prop} (h : S_X7_rootOf u v0 v1 post) : Met l yX7_rootOf (Cond.code yX7_rootOf cX7_rootOf 6 (some .int) :: gx_TB) (gx_rm 3) (px_Pre Z u [.int v0, .int v1]) (va_Qi post (px_B Z) (px_A Z)) 0 0 (px_A Z) := by
  refine px_met (by decide +kernel) (Nat.le_of_ble_eq_true rfl) ?_
  intro E X hZ hQ hD hL
  subst hZ
  exact w_X7_rootOf X (Nat.le_of_eq hD.symm) hQ h
def prF (p : Int32) : Nat → Int32 → Bool
  | 0, _ => true
  | k + 1, d => if p < d * d then true else if p - p / d * d = 0 then false else prF p k (d + 1)
def S_X7_isPrime (u : gx_S) (v0 : Int32) (post : Int32 → gx_S → Prop) : Prop := ∃ n : Nat, n < 400 ∧ v0 = nI n ∧ post (b2 (prF v0 20 2)) u
theorem w_X7_isPrime {E : gx_E} (X : px_X E cX7_isPrime 2 RX7 (some .boolean)) (hd : 0 ≤ ex_d E) {post : Int32 → gx_S → Prop} (hQ : ex_Q E = va_Qi post (px_B (ex_Z E)) (px_A (ex_Z E))) {u : gx_S} {v0 : Int32} (h : S_X7_isPrime u v0 post) : px_Wc E 2 0 [(0, .int v0)] [] u := by
  obtain ⟨n, hn, rfl, h⟩ := h
  have lp : ∀ (k i : Nat), 20 - i = k → i ≤ 20 → post (b2 (prF (nI n) k (nI (2 + i)))) u → J_X7_isPrime_2 E (nI n) (nI (2 + i)) u := by
    intro k
    induction k with
    | zero =>
      intro i hk hi h
      have ei : i = 20 := by omega
      subst ei
      refine w_X7_isPrime_2 X hd hQ ⟨fun _ => h, fun q => absurd ?_ q⟩
      rw [pk_mul]
      exact nI_lt (by omega) (by omega)
    | succ k ih =>
      intro i hk hi h
      unfold prF at h
      refine w_X7_isPrime_2 X hd hQ ⟨fun q => ?_, fun q => ⟨fun z => absurd ((nI_eq (b := 0) (by omega) (by omega)).mp z) (by omega), fun q2 => ?_, fun q2 => ?_⟩⟩
      · rw [if_pos q] at h; exact h
      · rw [if_neg q, if_neg q2] at h
        rintro x2 rfl
        rw [nI_1] at h ⊢
        exact ih (i + 1) (by omega) (by omega) h
      · rw [if_neg q, if_pos q2] at h; exact h
  exact w_X7_isPrime_0 X hd hQ (lp 20 0 rfl (by omega) h)
theorem c_X7_isPrime {l : Launch} {Z : gx_Z} {u : gx_S} {v0 : Int32} {post : Int32 → gx_S → Prop} (h : S_X7_isPrime u v0 post) : Met l yX7_isPrime (Cond.code yX7_isPrime cX7_isPrime 2 (some .boolean) :: gx_TB) (gx_rm 0) (px_Pre Z u [.int v0]) (va_Qi post (px_B Z) (px_A Z)) 0 0 (px_A Z) := by
  refine px_met (by decide +kernel) (Nat.le_of_ble_eq_true rfl) ?_
  intro E X hZ hQ hD hL
  subst hZ
  exact w_X7_isPrime X (Nat.le_of_eq hD.symm) hQ h
/-- the primes below 312 -/
def prms : List Nat := [2, 3, 5, 7, 11, 13, 17, 19, 23, 29, 31, 37, 41, 43, 47, 53, 59, 61, 67, 71, 73, 79, 83, 89, 97, 101, 103, 107, 109, 113, 127, 131, 137, 139, 149, 151, 157, 163, 167, 173, 179, 181, 191, 193, 197, 199, 211, 223, 227, 229, 233, 239, 241, 251, 257, 263, 269, 271, 277, 281, 283, 293, 307, 311]
/-- how many primes stand below p -/
def cp (p : Nat) : Nat := (prms.filter (fun q => decide (q < p))).length
theorem cp_ok : ∀ p, p < 312 → 2 ≤ p → (prF (nI p) 20 2 = true → prms.getD (cp p) 0 = p ∧ cp (p + 1) = cp p + 1 ∧ cp p < 64) ∧ (prF (nI p) 20 2 = false → cp (p + 1) = cp p ∧ cp p < 64) := by decide +kernel
theorem cp_312 : cp 312 = 64 ∧ cp 2 = 0 := by decide +kernel
def rk (j : Nat) : Int32 := rt (nI (prms.getD j 0)) 3
def rh (j : Nat) : Int32 := rt (nI (prms.getD j 0)) 2
theorem rh_val : (List.range 8).map rh = [1779033703, -1150833019, 1013904242, -1521486534, 1359893119, -1694144372, 528734635, 1541459225] := by decide +kernel

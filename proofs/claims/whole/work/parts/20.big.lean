/-! GREAT NUMBERS: digits of 16 bits, the lowest first; dv is an int's value, vA that of n digits -/
def dv (x : Int32) : Nat := x.toBitVec.toNat
theorem dv_nI {n : Nat} (h : n < 2 ^ 32) : dv (nI n) = n := pk_tn h
theorem nI_dv (x : Int32) : nI (dv x) = x := by
  apply Int32.toBitVec_inj.mp
  apply BitVec.eq_of_toNat_eq
  exact pk_tn (i32_lt x)
def okD (a : Nat → Int32) (n : Nat) : Prop := ∀ j, j < n → dv (a j) < 65536
def vA (a : Nat → Int32) : Nat → Nat
  | 0 => 0
  | n + 1 => vA a n + dv (a n) * 65536 ^ n
theorem vA_0 (a : Nat → Int32) : vA a 0 = 0 := rfl
theorem vA_s (a : Nat → Int32) (n : Nat) : vA a (n + 1) = vA a n + dv (a n) * 65536 ^ n := rfl
theorem vA_cg {a b : Nat → Int32} : ∀ n, (∀ j, j < n → a j = b j) → vA a n = vA b n
  | 0, _ => rfl
  | n + 1, h => by rw [vA, vA, vA_cg n (fun j hj => h j (by omega)), h n (by omega)]
theorem pow_s (n : Nat) : 65536 ^ (n + 1) = 65536 * 65536 ^ n := by rw [Nat.pow_succ, Nat.mul_comm]
theorem vA_lt {a : Nat → Int32} : ∀ n, okD a n → vA a n < 65536 ^ n
  | 0, _ => by simp [vA]
  | n + 1, h => by
    have h1 := vA_lt n (fun j hj => h j (by omega))
    have h2 := h n (by omega)
    have h3 : dv (a n) * 65536 ^ n ≤ 65535 * 65536 ^ n := Nat.mul_le_mul_right _ (by omega)
    rw [vA, pow_s]
    omega
theorem vA_ge {a : Nat → Int32} {k : Nat} {x : Int32} : ∀ n, n ≤ k → vA (upd a k x) n = vA a n := fun n hn => vA_cg n (fun j hj => pk_un (by omega))
theorem vA_upd {a : Nat → Int32} {k : Nat} {x : Int32} : ∀ n, k < n → vA (upd a k x) n + dv (a k) * 65536 ^ k = vA a n + dv x * 65536 ^ k
  | 0, h => by omega
  | n + 1, h => by
    by_cases e : k = n
    · subst e
      rw [vA, vA, vA_ge k (Nat.le_refl _), pk_us]
      omega
    · have := vA_upd (a := a) (k := k) (x := x) n (by omega)
      rw [vA, vA, pk_un (by omega)]
      omega
def sl (a : Nat → Int32) (p : Nat) : Nat → Int32 := fun j => a (p + j)
theorem sl_upd (a : Nat → Int32) (p k : Nat) (x : Int32) : sl (upd a (p + k) x) p = upd (sl a p) k x := by
  funext j
  unfold sl upd
  by_cases e : j = k
  · rw [if_pos (by omega), if_pos e]
  · rw [if_neg (by omega), if_neg e]
theorem vA_sl (a : Nat → Int32) (p : Nat) : ∀ n, vA a (p + n) = vA a p + 65536 ^ p * vA (sl a p) n
  | 0 => by simp [vA]
  | n + 1 => by
    rw [show p + (n + 1) = (p + n) + 1 by omega, vA, vA, vA_sl a p n, Nat.mul_add, show sl a p n = a (p + n) from rfl, Nat.pow_add]
    have e : 65536 ^ p * (dv (a (p + n)) * 65536 ^ n) = dv (a (p + n)) * (65536 ^ p * 65536 ^ n) := by
      rw [← Nat.mul_assoc, Nat.mul_comm (65536 ^ p) (dv (a (p + n))), Nat.mul_assoc]
    omega
theorem okD_upd {a : Nat → Int32} {n k v : Nat} (h : okD a n) (hv : v < 65536) : okD (upd a k (nI v)) n := by
  intro j hj
  by_cases e : j = k
  · rw [e, pk_us, dv_nI (by omega)]; exact hv
  · rw [pk_un e]; exact h j hj
theorem dg_inj {a b : Nat → Int32} : ∀ n, okD a n → okD b n → vA a n = vA b n → ∀ j, j < n → a j = b j
  | 0, _, _, _, j, hj => by omega
  | n + 1, ha, hb, h, j, hj => by
    have h1 := vA_lt n (fun j hj => ha j (by omega))
    have h2 := vA_lt n (fun j hj => hb j (by omega))
    rw [vA, vA] at h
    have e1 : dv (a n) = dv (b n) := by
      have d1 : (vA a n + dv (a n) * 65536 ^ n) / 65536 ^ n = dv (a n) := by
        rw [Nat.add_mul_div_right _ _ (Nat.pow_pos (by omega)), Nat.div_eq_of_lt h1, Nat.zero_add]
      have d2 : (vA b n + dv (b n) * 65536 ^ n) / 65536 ^ n = dv (b n) := by
        rw [Nat.add_mul_div_right _ _ (Nat.pow_pos (by omega)), Nat.div_eq_of_lt h2, Nat.zero_add]
      rw [← d1, h, d2]
    by_cases e : j = n
    · rw [e, ← nI_dv (a n), e1, nI_dv]
    · rw [e1] at h
      exact dg_inj n (fun j hj => ha j (by omega)) (fun j hj => hb j (by omega)) (by omega) j (by omega)
theorem sp_mul (x A : Nat) : x * A = (x % 65536) * A + (x / 65536) * (65536 * A) := by
  rw [← Nat.mul_assoc, ← Nat.add_mul]
  congr 1
  omega
-- longs
def lz (c : Int) : Int64 := Int64.ofInt c
theorem lz_n (n : Nat) : lN n = lz n := by
  unfold lN lz
  apply Int64.toBitVec_inj.mp
  rw [Int64.toBitVec_ofInt]
  show BitVec.ofNat 64 n = _
  exact (BitVec.ofInt_natCast 64 n).symm
theorem lz_add (a b : Int) : lz a + lz b = lz (a + b) := (Int64.ofInt_add a b).symm
theorem lz_sub (a b : Int) : lz a - lz b = lz (a - b) := (Int64.ofInt_sub a b).symm
theorem lz_mul (a b : Int) : lz a * lz b = lz (a * b) := (Int64.ofInt_mul a b).symm
theorem lz_toInt {c : Int} (h1 : -4611686018427387904 ≤ c) (h2 : c < 4611686018427387904) : (lz c).toInt = c := Int64.toInt_ofInt_of_le (by omega) (by omega)
theorem lz_dv {x : Int32} (h : dv x < 65536) : x.toInt64 = lz (dv x) := by
  rw [← lz_n, ← nI_l (by omega), nI_dv]
theorem lz_and (c : Int) : (lz c &&& (65535 : Int64)).toInt32 = nI (c % 65536).toNat := by
  apply Int32.toBitVec_inj.mp
  apply BitVec.eq_of_toNat_eq
  show (BitVec.signExtend 32 ((lz c).toBitVec &&& 65535#64)).toNat = _
  rw [BitVec.signExtend_eq_setWidth_of_le _ (by omega), BitVec.toNat_setWidth, BitVec.toNat_and, pk_tn (by omega)]
  show ((BitVec.ofInt 64 c).toNat &&& (2 ^ 16 - 1)) % 2 ^ 32 = _
  rw [Nat.and_two_pow_sub_one_eq_mod, BitVec.toNat_ofInt]
  omega
theorem lz_shr {c : Int} (h1 : -4611686018427387904 ≤ c) (h2 : c < 4611686018427387904) : lz c >>> ((16 : Int32).toInt64 &&& 63) = lz (c / 65536) := by
  apply Int64.toInt_inj.mp
  have e : (lz c >>> ((16 : Int32).toInt64 &&& 63)).toInt = (lz c).toInt >>> 16 := by
    have hD : (((16 : Int32).toInt64 &&& 63).toBitVec.smod 64).toNat = 16 := by decide
    show ((lz c).toBitVec.sshiftRight (((16 : Int32).toInt64 &&& 63).toBitVec.smod 64).toNat).toInt = _
    rw [hD, BitVec.toInt_sshiftRight]
    rfl
  rw [e, lz_toInt h1 h2, lz_toInt (by omega) (by omega), Int.shiftRight_eq_div_pow]
  rfl
theorem lz_i {n : Nat} : (lz n).toInt32 = nI n := by rw [← lz_n, lN_i]
-- pasted from kit/laws/BITS.to-paste: the family wb_
theorem wb_tb (n : Nat) : (lN n).toBitVec = BitVec.ofNat 64 n := rfl
theorem wb_inj {a b : Int64} (h : a.toBitVec = b.toBitVec) : a = b := Int64.toBitVec_inj.mp h
theorem wb_tn {n : Nat} (h : n < 2 ^ 64) : (lN n).toBitVec.toNat = n := by rw [wb_tb, BitVec.toNat_ofNat, Nat.mod_eq_of_lt h]
theorem wb_of (x : Int64) : ∃ n, n < 2 ^ 64 ∧ x = lN n := ⟨x.toBitVec.toNat, x.toBitVec.isLt, wb_inj (by rw [wb_tb]; simp)⟩
theorem wb_of32 (x : Int32) : ∃ n, n < 2 ^ 32 ∧ x = nI n := ⟨x.toBitVec.toNat, x.toBitVec.isLt, Int32.toBitVec_inj.mp (by show _ = BitVec.ofNat 32 _; simp)⟩
theorem wb_c : ∀ k, k < 64 → ((nI k).toInt64 &&& 63) = lN k := by decide +kernel
theorem wb_cu : ∀ k, k < 64 → ((nI k).toInt64.toUInt64 &&& Int64.toUInt64 63) = UInt64.ofNat k := by decide +kernel
theorem wb_sm : ∀ k, k < 64 → (BitVec.ofNat 64 k).smod 64 = BitVec.ofNat 64 k := by decide +kernel
theorem wb_pw {a b : Nat} (h : a ≤ b) : 2 ^ b = 2 ^ a * 2 ^ (b - a) := by rw [← Nat.pow_add]; congr 1; omega
theorem wb_lt2 {a b : Nat} (h : a < b) : 2 ^ a < 2 ^ b := Nat.pow_lt_pow_right (by decide) h
theorem wb_mod (n : Nat) : lN n = lN (n % 2 ^ 64) := wb_inj (by rw [wb_tb, wb_tb]; apply BitVec.eq_of_toNat_eq; rw [BitVec.toNat_ofNat, BitVec.toNat_ofNat, Nat.mod_mod])
theorem wb_shr {n k : Nat} (hn : n < 2 ^ 64) (hk : k < 64) : ((lN n).toUInt64 >>> ((nI k).toInt64.toUInt64 &&& Int64.toUInt64 63)).toInt64 = lN (n / 2 ^ k) := by
  rw [wb_cu k hk]
  apply wb_inj
  apply BitVec.eq_of_toNat_eq
  show ((lN n).toUInt64 >>> UInt64.ofNat k).toNat = (BitVec.ofNat 64 _).toNat
  have h1 : (UInt64.ofNat k).toNat = k := by
    show (BitVec.ofNat 64 k).toNat = k
    rw [BitVec.toNat_ofNat, Nat.mod_eq_of_lt (by omega)]
  have h2 : (lN n).toUInt64.toNat = n := wb_tn hn
  rw [UInt64.toNat_shiftRight, h1, h2, Nat.mod_eq_of_lt hk, Nat.shiftRight_eq_div_pow, BitVec.toNat_ofNat, Nat.mod_eq_of_lt (Nat.lt_of_le_of_lt (Nat.div_le_self _ _) hn)]
theorem wb_shl (n : Nat) {k : Nat} (hk : k < 64) : lN n <<< ((nI k).toInt64 &&& 63) = lN (n * 2 ^ k) := by
  rw [wb_c k hk]
  apply wb_inj
  rw [Int64.toBitVec_shiftLeft, wb_tb, wb_tb, wb_tb, wb_sm k hk]
  apply BitVec.eq_of_toNat_eq
  rw [BitVec.shiftLeft_eq', BitVec.toNat_shiftLeft, BitVec.toNat_ofNat, BitVec.toNat_ofNat, BitVec.toNat_ofNat, Nat.mod_eq_of_lt (show k < 2 ^ 64 by omega), Nat.shiftLeft_eq, Nat.mul_mod, Nat.mod_mod, ← Nat.mul_mod]
theorem wb_and {a b : Nat} (ha : a < 2 ^ 64) (hb : b < 2 ^ 64) : lN a &&& lN b = lN (a &&& b) := by
  apply wb_inj
  rw [Int64.toBitVec_and, wb_tb, wb_tb, wb_tb]
  apply BitVec.eq_of_toNat_eq
  rw [BitVec.toNat_and, BitVec.toNat_ofNat, BitVec.toNat_ofNat, BitVec.toNat_ofNat, Nat.mod_eq_of_lt ha, Nat.mod_eq_of_lt hb, Nat.mod_eq_of_lt (Nat.and_lt_two_pow _ hb)]
theorem wb_or {a b : Nat} (ha : a < 2 ^ 64) (hb : b < 2 ^ 64) : lN a ||| lN b = lN (a ||| b) := by
  apply wb_inj
  rw [Int64.toBitVec_or, wb_tb, wb_tb, wb_tb]
  apply BitVec.eq_of_toNat_eq
  rw [BitVec.toNat_or, BitVec.toNat_ofNat, BitVec.toNat_ofNat, BitVec.toNat_ofNat, Nat.mod_eq_of_lt ha, Nat.mod_eq_of_lt hb, Nat.mod_eq_of_lt (Nat.or_lt_two_pow ha hb)]
theorem wb_mask {n k : Nat} (hn : n < 2 ^ 64) (hk : k < 64) : lN n &&& lN (2 ^ k - 1) = lN (n % 2 ^ k) := by
  rw [wb_and hn (by have := wb_lt2 hk; omega), Nat.and_two_pow_sub_one_eq_mod]
theorem wb_a1 {n : Nat} (hn : n < 2 ^ 64) : lN n &&& 1 = lN (n % 2) := wb_mask (k := 1) hn (by decide)
